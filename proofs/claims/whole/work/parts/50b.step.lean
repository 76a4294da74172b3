/-! (goes on) -/
theorem m_note {d : Nat} {I : Nat → Nat → Int32} {J : Nat → Nat → Int64} {κ : CT} {η : HS} (cb : CB κ) (mr : MR 126 κ η I) (hb_ : HB κ η) {l : LW} (mc_ : MC κ I) (ml_ : ML l I) (lb : LB l) (wm : WM κ l η) {i : Nat} (hi : i < κ.ns)  (hd : 10 ≤ d) : RI d 231 [.ref 106, .int (nI i)] I J (fun v I' => v = bI (qNote κ η i) ∧ MR 126 κ (if qNote κ η i = true then hNote η i else η) I' ∧ ∀ x, x ≠ 126 → x ≠ 121 → x ≠ 122 → I' x = I x) := by
  refine RI.in (d0 := 9) hd mt_231 (Nat.le_of_ble_eq_true rfl) (fun d' hd' => ?_)
  have bns := cb.ns; have bnb := cb.nb; have bnc := cb.nc; have bnr := cb.nr
  have bm_ := hb_.mi
  show EV none M_X11_isNoted d' 0 [(0, .ref 106), (1, .int (nI i))] [] (hp I J) _
  refine EV.l (lv' := [(0, _), (1, _)]) r_X11_isNoted_0 rfl ?_
  refine EV.gR r_X11_isNoted_1 la_106 ?_
  refine EV.o r_X11_isNoted_4 (bpN (9) 9) ?_
  refine EV.l (lv' := [(0, _), (1, _)]) r_X11_isNoted_6 rfl ?_
  refine EV.o r_X11_isNoted_7 iaddN ?_
  refine EV.iaN r_X11_isNoted_8 la_126 (mr.nt _ (by omega)) ?_
  refine EV.bz_ne r_X11_isNoted_9 (fun h9 => ?_) (fun h9 => ?_)
  · -- 9 t
    refine EV.l (lv' := [(0, _), (1, _)]) r_X11_isNoted_44 rfl ?_
    refine EV.gR r_X11_isNoted_45 la_106 ?_
    refine EV.o r_X11_isNoted_48 (bpN (9) 9) ?_
    refine EV.l (lv' := [(0, _), (1, _)]) r_X11_isNoted_50 rfl ?_
    refine EV.o r_X11_isNoted_51 iaddN ?_
    refine EV.o r_X11_isNoted_52 (icN (1) (v := 1)) ?_
    refine EV.l (lv' := [(0, _), (1, _)]) r_X11_isNoted_53 rfl ?_
    refine EV.gR r_X11_isNoted_54 la_106 ?_
    refine EV.o r_X11_isNoted_57 (bpN (9) 9) ?_
    refine EV.l (lv' := [(0, _), (1, _)]) r_X11_isNoted_59 rfl ?_
    refine EV.o r_X11_isNoted_60 iaddN ?_
    refine EV.iaN r_X11_isNoted_61 la_126 (mr.nt _ (by omega)) ?_
    refine EV.o r_X11_isNoted_62 (isubN (Bool.toNat_le _)) ?_
    refine EV.iaSn r_X11_isNoted_63 la_126 (fun I4 eI4 => ?_)
    refine EV.o r_X11_isNoted_64 (icN (1) (v := 1)) ?_
    exact EV.ri r_X11_isNoted_65 (by first | exact ⟨by rw [(show qNote κ η i = true from by first | exact nt_t1 h9 | exact nt_t2 (by omega) h39)]; rfl, by rw [if_pos (show qNote κ η i = true from by first | exact nt_t1 h9 | exact nt_t2 (by omega) h39)]; subst eI4; exact mr3.pnt cb hi, fun x a1 a2 a3 => by subst eI4; exact (wr_row a1).trans (fr3 x a2 a3)⟩ | exact ⟨by rw [nt_t1 h9]; rfl, by rw [if_pos (nt_t1 h9)]; subst eI4; exact mr.pnt cb hi, fun x a1 a2 a3 => by subst eI4; exact wr_row a1⟩)
  · -- 9 f
    refine EV.l (lv' := [(0, _), (1, _)]) r_X11_isNoted_12 rfl ?_
    refine EV.gR r_X11_isNoted_13 la_106 ?_
    refine EV.o r_X11_isNoted_16 (icN (0) (v := 0)) ?_
    refine EV.l (lv' := [(0, _), (1, _)]) r_X11_isNoted_17 rfl ?_
    refine EV.o r_X11_isNoted_18 iaddN ?_
    refine EV.iaN r_X11_isNoted_19 la_126 (mr.sa _ (by omega)) ?_
    refine EV.l (lv' := [(0, _), (1, _)]) r_X11_isNoted_20 rfl ?_
    refine EV.gR r_X11_isNoted_21 la_106 ?_
    refine EV.o r_X11_isNoted_24 (bpN (30) 30) ?_
    refine EV.iaN r_X11_isNoted_26 la_126 (mr.mi) ?_
    have b1 := hb_.sa i
    refine EV.n2_gt r_X11_isNoted_27 (fun h27 => ?_) (fun h27 => ?_)
    · -- 27 t
      refine EV.o r_X11_isNoted_42 (icN (0) (v := 0)) ?_
      exact EV.ri r_X11_isNoted_43 (by first | exact ⟨by rw [nt_f h9 (by first | exact Or.inl (by omega) | exact Or.inr h39)]; rfl, by rw [if_neg (by rw [nt_f h9 (by first | exact Or.inl (by omega) | exact Or.inr h39)]; decide)]; exact mr3, fun x a1 a2 a3 => fr3 x a2 a3⟩ | exact ⟨by rw [nt_f h9 (Or.inl (by omega))]; rfl, by rw [if_neg (by rw [nt_f h9 (Or.inl (by omega))]; decide)]; exact mr, fun _ _ _ _ => rfl⟩)
    · -- 27 f
      refine EV.l (lv' := [(0, _), (1, _)]) r_X11_isNoted_30 rfl ?_
      refine EV.ci r_X11_isNoted_31 (aV0 mt_221 la_106) (m_countsNow mc_ cb mr hb_ ml_ lb (by omega)) (fun v I3 h2 => ?_)
      obtain ⟨e, fr3⟩ := h2
      subst e
      rw [cn_eq hb_ wm]
      have c9 := cnt_lt (η := η) cb
      have mr3 : MR 126 κ η I3 := mr.fr (fr3 126 (by decide) (by decide))
      refine EV.l (lv' := [(0, _), (1, _)]) r_X11_isNoted_34 rfl ?_
      refine EV.o r_X11_isNoted_35 (ishrN) ?_
      refine EV.o r_X11_isNoted_36 (icN (1) (v := 1)) ?_
      refine EV.o r_X11_isNoted_37 (ibitN) ?_
      refine EV.o r_X11_isNoted_38 (icN (1) (v := 1)) ?_
      rw [cnt_bit hi]
      refine EV.bt_ne r_X11_isNoted_39 (fun h39 => ?_) (fun h39 => ?_)
      · -- 39 t
        refine EV.l (lv' := [(0, _), (1, _)]) r_X11_isNoted_44 rfl ?_
        refine EV.gR r_X11_isNoted_45 la_106 ?_
        refine EV.o r_X11_isNoted_48 (bpN (9) 9) ?_
        refine EV.l (lv' := [(0, _), (1, _)]) r_X11_isNoted_50 rfl ?_
        refine EV.o r_X11_isNoted_51 iaddN ?_
        refine EV.o r_X11_isNoted_52 (icN (1) (v := 1)) ?_
        refine EV.l (lv' := [(0, _), (1, _)]) r_X11_isNoted_53 rfl ?_
        refine EV.gR r_X11_isNoted_54 la_106 ?_
        refine EV.o r_X11_isNoted_57 (bpN (9) 9) ?_
        refine EV.l (lv' := [(0, _), (1, _)]) r_X11_isNoted_59 rfl ?_
        refine EV.o r_X11_isNoted_60 iaddN ?_
        refine EV.iaN r_X11_isNoted_61 la_126 (mr3.nt _ (by omega)) ?_
        refine EV.o r_X11_isNoted_62 (isubN (Bool.toNat_le _)) ?_
        refine EV.iaSn r_X11_isNoted_63 la_126 (fun I4 eI4 => ?_)
        refine EV.o r_X11_isNoted_64 (icN (1) (v := 1)) ?_
        exact EV.ri r_X11_isNoted_65 (by first | exact ⟨by rw [(show qNote κ η i = true from by first | exact nt_t1 h9 | exact nt_t2 (by omega) h39)]; rfl, by rw [if_pos (show qNote κ η i = true from by first | exact nt_t1 h9 | exact nt_t2 (by omega) h39)]; subst eI4; exact mr3.pnt cb hi, fun x a1 a2 a3 => by subst eI4; exact (wr_row a1).trans (fr3 x a2 a3)⟩ | exact ⟨by rw [nt_t1 h9]; rfl, by rw [if_pos (nt_t1 h9)]; subst eI4; exact mr.pnt cb hi, fun x a1 a2 a3 => by subst eI4; exact wr_row a1⟩)
      · -- 39 f
        refine EV.o r_X11_isNoted_42 (icN (0) (v := 0)) ?_
        exact EV.ri r_X11_isNoted_43 (by first | exact ⟨by rw [nt_f h9 (by first | exact Or.inl (by omega) | exact Or.inr h39)]; rfl, by rw [if_neg (by rw [nt_f h9 (by first | exact Or.inl (by omega) | exact Or.inr h39)]; decide)]; exact mr3, fun x a1 a2 a3 => fr3 x a2 a3⟩ | exact ⟨by rw [nt_f h9 (Or.inl (by omega))]; rfl, by rw [if_neg (by rw [nt_f h9 (Or.inl (by omega))]; decide)]; exact mr, fun _ _ _ _ => rfl⟩)
