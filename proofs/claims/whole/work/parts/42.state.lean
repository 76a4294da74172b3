/-! Mixed numbers; refusals of the model by what holds; the state of both; frames; answers. -/
section ZN
variable {sc : Option (Nat × (Nat → Int32))} {M : MI} {d pc : Nat} {lv : LV} {st : List Value} {G : AH} {Q : (Option Value ⊕ Nat) → AH → Nat → Prop}
theorem EV.zn2_eq {o : Int} {a b pq : Nat} {x : Int} {y : Nat} (hr : RW M pc (.if_icmp .eq o) 3 a b pq) (kt : x = (y : Int) → EV sc M d a lv st G Q) (kf : ¬ x = (y : Int) → EV sc M d pq lv st G Q) (hx : -2147483648 ≤ x := by omega) (hx2 : x < 2147483648 := by omega) (hy : y < 2147483648 := by omega) : EV sc M d pc lv (.int (nI y) :: .int (zI x) :: st) G Q := by rw [← zI_nat]; exact EV.z2_eq hr kt kf hx hx2 (by omega) (by omega)
theorem EV.nz2_eq {o : Int} {a b pq : Nat} {x : Nat} {y : Int} (hr : RW M pc (.if_icmp .eq o) 3 a b pq) (kt : (x : Int) = y → EV sc M d a lv st G Q) (kf : ¬ (x : Int) = y → EV sc M d pq lv st G Q) (hx : x < 2147483648 := by omega) (hy : -2147483648 ≤ y := by omega) (hy2 : y < 2147483648 := by omega) : EV sc M d pc lv (.int (zI y) :: .int (nI x) :: st) G Q := by rw [← zI_nat]; exact EV.z2_eq hr kt kf (by omega) (by omega) hy hy2
theorem EV.zn2_ne {o : Int} {a b pq : Nat} {x : Int} {y : Nat} (hr : RW M pc (.if_icmp .ne o) 3 a b pq) (kt : ¬ x = (y : Int) → EV sc M d a lv st G Q) (kf : x = (y : Int) → EV sc M d pq lv st G Q) (hx : -2147483648 ≤ x := by omega) (hx2 : x < 2147483648 := by omega) (hy : y < 2147483648 := by omega) : EV sc M d pc lv (.int (nI y) :: .int (zI x) :: st) G Q := by rw [← zI_nat]; exact EV.z2_ne hr kt kf hx hx2 (by omega) (by omega)
theorem EV.nz2_ne {o : Int} {a b pq : Nat} {x : Nat} {y : Int} (hr : RW M pc (.if_icmp .ne o) 3 a b pq) (kt : ¬ (x : Int) = y → EV sc M d a lv st G Q) (kf : (x : Int) = y → EV sc M d pq lv st G Q) (hx : x < 2147483648 := by omega) (hy : -2147483648 ≤ y := by omega) (hy2 : y < 2147483648 := by omega) : EV sc M d pc lv (.int (zI y) :: .int (nI x) :: st) G Q := by rw [← zI_nat]; exact EV.z2_ne hr kt kf (by omega) (by omega) hy hy2
theorem EV.zn2_lt {o : Int} {a b pq : Nat} {x : Int} {y : Nat} (hr : RW M pc (.if_icmp .lt o) 3 a b pq) (kt : x < (y : Int) → EV sc M d a lv st G Q) (kf : (y : Int) ≤ x → EV sc M d pq lv st G Q) (hx : -2147483648 ≤ x := by omega) (hx2 : x < 2147483648 := by omega) (hy : y < 2147483648 := by omega) : EV sc M d pc lv (.int (nI y) :: .int (zI x) :: st) G Q := by rw [← zI_nat]; exact EV.z2_lt hr kt kf hx hx2 (by omega) (by omega)
theorem EV.nz2_lt {o : Int} {a b pq : Nat} {x : Nat} {y : Int} (hr : RW M pc (.if_icmp .lt o) 3 a b pq) (kt : (x : Int) < y → EV sc M d a lv st G Q) (kf : y ≤ (x : Int) → EV sc M d pq lv st G Q) (hx : x < 2147483648 := by omega) (hy : -2147483648 ≤ y := by omega) (hy2 : y < 2147483648 := by omega) : EV sc M d pc lv (.int (zI y) :: .int (nI x) :: st) G Q := by rw [← zI_nat]; exact EV.z2_lt hr kt kf (by omega) (by omega) hy hy2
theorem EV.zn2_ge {o : Int} {a b pq : Nat} {x : Int} {y : Nat} (hr : RW M pc (.if_icmp .ge o) 3 a b pq) (kt : (y : Int) ≤ x → EV sc M d a lv st G Q) (kf : x < (y : Int) → EV sc M d pq lv st G Q) (hx : -2147483648 ≤ x := by omega) (hx2 : x < 2147483648 := by omega) (hy : y < 2147483648 := by omega) : EV sc M d pc lv (.int (nI y) :: .int (zI x) :: st) G Q := by rw [← zI_nat]; exact EV.z2_ge hr kt kf hx hx2 (by omega) (by omega)
theorem EV.nz2_ge {o : Int} {a b pq : Nat} {x : Nat} {y : Int} (hr : RW M pc (.if_icmp .ge o) 3 a b pq) (kt : y ≤ (x : Int) → EV sc M d a lv st G Q) (kf : (x : Int) < y → EV sc M d pq lv st G Q) (hx : x < 2147483648 := by omega) (hy : -2147483648 ≤ y := by omega) (hy2 : y < 2147483648 := by omega) : EV sc M d pc lv (.int (zI y) :: .int (nI x) :: st) G Q := by rw [← zI_nat]; exact EV.z2_ge hr kt kf (by omega) (by omega) hy hy2
theorem EV.zn2_gt {o : Int} {a b pq : Nat} {x : Int} {y : Nat} (hr : RW M pc (.if_icmp .gt o) 3 a b pq) (kt : (y : Int) < x → EV sc M d a lv st G Q) (kf : x ≤ (y : Int) → EV sc M d pq lv st G Q) (hx : -2147483648 ≤ x := by omega) (hx2 : x < 2147483648 := by omega) (hy : y < 2147483648 := by omega) : EV sc M d pc lv (.int (nI y) :: .int (zI x) :: st) G Q := by rw [← zI_nat]; exact EV.z2_gt hr kt kf hx hx2 (by omega) (by omega)
theorem EV.nz2_gt {o : Int} {a b pq : Nat} {x : Nat} {y : Int} (hr : RW M pc (.if_icmp .gt o) 3 a b pq) (kt : y < (x : Int) → EV sc M d a lv st G Q) (kf : (x : Int) ≤ y → EV sc M d pq lv st G Q) (hx : x < 2147483648 := by omega) (hy : -2147483648 ≤ y := by omega) (hy2 : y < 2147483648 := by omega) : EV sc M d pc lv (.int (zI y) :: .int (nI x) :: st) G Q := by rw [← zI_nat]; exact EV.z2_gt hr kt kf (by omega) (by omega) hy hy2
theorem EV.zn2_le {o : Int} {a b pq : Nat} {x : Int} {y : Nat} (hr : RW M pc (.if_icmp .le o) 3 a b pq) (kt : x ≤ (y : Int) → EV sc M d a lv st G Q) (kf : (y : Int) < x → EV sc M d pq lv st G Q) (hx : -2147483648 ≤ x := by omega) (hx2 : x < 2147483648 := by omega) (hy : y < 2147483648 := by omega) : EV sc M d pc lv (.int (nI y) :: .int (zI x) :: st) G Q := by rw [← zI_nat]; exact EV.z2_le hr kt kf hx hx2 (by omega) (by omega)
theorem EV.nz2_le {o : Int} {a b pq : Nat} {x : Nat} {y : Int} (hr : RW M pc (.if_icmp .le o) 3 a b pq) (kt : (x : Int) ≤ y → EV sc M d a lv st G Q) (kf : y < (x : Int) → EV sc M d pq lv st G Q) (hx : x < 2147483648 := by omega) (hy : -2147483648 ≤ y := by omega) (hy2 : y < 2147483648 := by omega) : EV sc M d pc lv (.int (zI y) :: .int (nI x) :: st) G Q := by rw [← zI_nat]; exact EV.z2_le hr kt kf (by omega) (by omega) hy hy2
theorem EV.p0_eq {o : Int} {a b pq : Nat} {p : Prop} {hd : Decidable p} (hr : RW M pc (.ifCond .eq o) 3 a b pq) (kt : ¬ p → EV sc M d a lv st G Q) (kf : p → EV sc M d pq lv st G Q) : EV sc M d pc lv (.int (bI (@decide p hd)) :: st) G Q := EV.b0_eq hr (fun h => kt (of_decide_eq_false h)) (fun h => kf (of_decide_eq_true h))
theorem EV.p0_ne {o : Int} {a b pq : Nat} {p : Prop} {hd : Decidable p} (hr : RW M pc (.ifCond .ne o) 3 a b pq) (kt : p → EV sc M d a lv st G Q) (kf : ¬ p → EV sc M d pq lv st G Q) : EV sc M d pc lv (.int (bI (@decide p hd)) :: st) G Q := EV.b0_ne hr (fun h => kt (of_decide_eq_true h)) (fun h => kf (of_decide_eq_false h))
theorem EV.ls {dd : Int} {ps : Array (Int × Int)} {len a b q pq : Nat} {x : Int32} (hr : RW M pc (.lookupswitch dd ps) len a b pq) (h : ((pc : Int) + Op.lookupswitch.offset ps.toList dd x.toInt).toNat = q) (k : EV sc M d q lv st G Q) : EV sc M d pc lv (.int x :: st) G Q := EV.to hr.1 (by show some (((pc : Int) + Op.lookupswitch.offset ps.toList dd x.toInt).toNat, st) = _; rw [h]) k
end ZN
theorem isubZN {x : Int} {y : Nat} {st : List Value} : stk .isub (.int (nI y) :: .int (zI x) :: st) = some (.int (zI (x - (y : Int))) :: st) := by rw [← zI_sub, zI_nat]; rfl
theorem isubNZ2 {x : Nat} {y : Int} {st : List Value} : stk .isub (.int (zI y) :: .int (nI x) :: st) = some (.int (zI ((x : Int) - y)) :: st) := by rw [← zI_sub, zI_nat]; rfl
theorem zI_self (x : Int32) : zI x.toInt = x := Int32.ofInt_toInt x
/-- any int: a whole number within its bounds -/
theorem i_z (x : Int32) : ∃ z : Int, -2147483648 ≤ z ∧ z < 2147483648 ∧ x = zI z := ⟨x.toInt, x.le_toInt, x.toInt_lt, (zI_self x).symm⟩
theorem z_out {z : Int} {n : Nat} (h1 : -2147483648 ≤ z) (h2 : z < 2147483648) (hn : n < 2147483648) (h : z < 0 ∨ (n : Int) ≤ z) : zI z < 0 ∨ nI n ≤ zI z := by
  rcases h with h | h
  · exact Or.inl ((zI_ltI (b := 0) h1 h2 (by omega) (by omega)).mpr h)
  · refine Or.inr ?_
    rw [← zI_nat]
    exact (zI_leI (by omega) (by omega) h1 h2).mpr h
section W
variable {d : Nat} {I : Nat → Nat → Int32} {J : Nat → Nat → Int64}
theorem m_wZ {v a b : Int} (h1 : -2147483648 ≤ v) (h2 : v < 2147483648) (h3 : -2147483648 ≤ a) (h4 : a < 2147483648) (h5 : -2147483648 ≤ b) (h6 : b < 2147483648) (hd : 1 ≤ d) : RV d 170 [.int (zI v), .int (zI a), .int (zI b)] I J (bI (decide (a ≤ v ∧ v ≤ b))) := by
  have h := m_within (v := zI v) (a := zI a) (b := zI b) (I := I) (J := J) hd
  rwa [show decide (zI a ≤ zI v ∧ zI v ≤ zI b) = decide (a ≤ v ∧ v ≤ b) from decide_eq_decide.mpr (and_congr (zI_leI h3 h4 h1 h2) (zI_leI h1 h2 h5 h6))] at h
theorem m_wZNN {v : Int} {a b : Nat} (h1 : -2147483648 ≤ v) (h2 : v < 2147483648) (h4 : a < 2147483648) (h6 : b < 2147483648) (hd : 1 ≤ d) : RV d 170 [.int (zI v), .int (nI a), .int (nI b)] I J (bI (decide ((a : Int) ≤ v ∧ v ≤ (b : Int)))) := by
  rw [← zI_nat, ← zI_nat]
  exact m_wZ h1 h2 (by omega) (by omega) (by omega) (by omega) hd
theorem m_wZNZ {v b : Int} {a : Nat} (h1 : -2147483648 ≤ v) (h2 : v < 2147483648) (h4 : a < 2147483648) (h5 : -2147483648 ≤ b) (h6 : b < 2147483648) (hd : 1 ≤ d) : RV d 170 [.int (zI v), .int (nI a), .int (zI b)] I J (bI (decide ((a : Int) ≤ v ∧ v ≤ b))) := by
  rw [← zI_nat]
  exact m_wZ h1 h2 (by omega) (by omega) h5 h6 hd
theorem m_wNNZ {v : Nat} {b : Int} {a : Nat} (h2 : v < 2147483648) (h4 : a < 2147483648) (h5 : -2147483648 ≤ b) (h6 : b < 2147483648) (hd : 1 ≤ d) : RV d 170 [.int (nI v), .int (nI a), .int (zI b)] I J (bI (decide ((a : Int) ≤ (v : Int) ∧ (v : Int) ≤ b))) := by
  rw [← zI_nat, ← zI_nat]
  exact m_wZ (by omega) (by omega) (by omega) (by omega) h5 h6 hd
theorem m_wNNN {v a b : Nat} (h2 : v < 2147483648) (h4 : a < 2147483648) (h6 : b < 2147483648) (hd : 1 ≤ d) : RV d 170 [.int (nI v), .int (nI a), .int (nI b)] I J (bI (decide ((a : Int) ≤ (v : Int) ∧ (v : Int) ≤ (b : Int)))) := by
  rw [← zI_nat, ← zI_nat, ← zI_nat]
  exact m_wZ (by omega) (by omega) (by omega) (by omega) (by omega) (by omega) hd
theorem m_mayN {c k : Int32} (h0 : I 106 0 = nI 0) (hd : 1 ≤ d) : RV d 169 [.ref 106, .int (nI 1), .int c, .int k] I J (nI 1) := m_may1 h0 hd
theorem m_mayP {c k : Int32} {p : Prop} {hq : Decidable p} (hp : p) (h0 : I 106 0 = nI 0) (hd : 1 ≤ d) : RV d 169 [.ref 106, .int (bI (@decide p hq)), .int c, .int k] I J (nI 1) := by
  rw [decide_eq_true hp]
  exact m_may1 h0 hd
theorem m_may0P {c k : Nat} {p : Prop} {hq : Decidable p} (hp : ¬ p) (h0 : I 106 0 = nI 0) (hc : 1 ≤ c) (hc2 : c < 3) (hk : k < 2) (hd : 1 ≤ d) : RI d 169 [.ref 106, .int (bI (@decide p hq)), .int (nI c), .int (nI k)] I J (fun v I' => v = nI 0 ∧ I' = wr (wr I 106 0 (nI c)) 107 k (I 107 k + nI 1)) := by
  rw [decide_eq_false hp]
  exact m_may0 h0 hc hc2 hk hd
end W
def STT : Type := (CT) × (LW) × (HS) × (Nat) × (Nat → Nat) × (Nat) × (Nat) × (Nat) × (Int32) × (Nat) × (Nat → HS) × (Nat) × (Nat → Nat) × (Nat → Nat → HS) × (Int32) × (Int32)
def STT.κ (x : STT) : CT := x.1
def STT.l (x : STT) : LW := x.2.1
def STT.η (x : STT) : HS := x.2.2.1
def STT.tl (x : STT) : Nat := x.2.2.2.1
def STT.tp (x : STT) : Nat → Nat := x.2.2.2.2.1
def STT.rf (x : STT) : Nat := x.2.2.2.2.2.1
def STT.bt (x : STT) : Nat := x.2.2.2.2.2.2.1
def STT.br (x : STT) : Nat := x.2.2.2.2.2.2.2.1
def STT.fp (x : STT) : Int32 := x.2.2.2.2.2.2.2.2.1
def STT.w (x : STT) : Nat := x.2.2.2.2.2.2.2.2.2.1
def STT.ps (x : STT) : Nat → HS := x.2.2.2.2.2.2.2.2.2.2.1
def STT.im (x : STT) : Nat := x.2.2.2.2.2.2.2.2.2.2.2.1
def STT.iw (x : STT) : Nat → Nat := x.2.2.2.2.2.2.2.2.2.2.2.2.1
def STT.ip (x : STT) : Nat → Nat → HS := x.2.2.2.2.2.2.2.2.2.2.2.2.2.1
def STT.r0 (x : STT) : Int32 := x.2.2.2.2.2.2.2.2.2.2.2.2.2.2.1
def STT.r1 (x : STT) : Int32 := x.2.2.2.2.2.2.2.2.2.2.2.2.2.2.2
def STT.mk (κ : CT) (l : LW) (η : HS) (tl : Nat) (tp : Nat → Nat) (rf : Nat) (bt : Nat) (br : Nat) (fp : Int32) (w : Nat) (ps : Nat → HS) (im : Nat) (iw : Nat → Nat) (ip : Nat → Nat → HS) (r0 : Int32) (r1 : Int32) : STT := (κ, l, η, tl, tp, rf, bt, br, fp, w, ps, im, iw, ip, r0, r1)
/-- a state that is kept: class, model -/
def CS (a b : Nat) (η : HS) (I : Nat → Nat → Int32) : Prop := I a b = nI η.mi ∧ I a (b + 1) = nI η.nt ∧ (∀ j, j < 9 → I a (b + 2 + j) = nI (η.sa j)) ∧ (∀ j, j < 4 → I a (b + 11 + j) = nI (η.be j)) ∧ (∀ j, j < 4 → I a (b + 15 + j) = nI (η.le j)) ∧ (∀ j, j < 4 → I a (b + 19 + j) = nI (η.cr j))
def MS (a b : Nat) (κ : CT) (η : HS) (I : Nat → Nat → Int32) : Prop := (∀ j, j < κ.ns → I a (b + j) = nI (η.sa j)) ∧ (∀ j, j < κ.ns → I a (b + (9 + j)) = nI (η.nt.testBit j).toNat) ∧ (∀ j, j < κ.nb → I a (b + (18 + j)) = nI (η.be j)) ∧ (∀ j, j < κ.nb → I a (b + (22 + j)) = nI (η.le j)) ∧ (∀ j, j < κ.nc → I a (b + (26 + j)) = nI (η.cr j)) ∧ I a (b + 30) = nI η.mi
/-- the court that is worked with: its numbers within bounds at every place -/
def rbd (I : Nat → Nat → Int32) (o m b : Nat) : Prop := ∀ j, j < m → ∃ x, x ≤ b ∧ I o j = nI x
def SK (I : Nat → Nat → Int32) : Prop := rbd I 27 9 99 ∧ rbd I 29 9 1 ∧ rbd I 31 9 60 ∧ rbd I 39 4 99 ∧ rbd I 41 4 20 ∧ rbd I 43 4 40 ∧ rbd I 45 4 9
theorem rbd.fr {I I' : Nat → Nat → Int32} {o m b : Nat} (h : rbd I o m b) (e : I' o = I o) : rbd I' o m b := fun j hj => by rw [e]; exact h j hj
theorem SK.fr {I I' : Nat → Nat → Int32} (h : SK I) (e : ∀ o, 25 ≤ o → o ≤ 45 → I' o = I o) : SK I' := ⟨h.1.fr (e _ (by decide) (by decide)), h.2.1.fr (e _ (by decide) (by decide)), h.2.2.1.fr (e _ (by decide) (by decide)), h.2.2.2.1.fr (e _ (by decide) (by decide)), h.2.2.2.2.1.fr (e _ (by decide) (by decide)), h.2.2.2.2.2.1.fr (e _ (by decide) (by decide)), h.2.2.2.2.2.2.fr (e _ (by decide) (by decide))⟩
def SB (S : STT) : Prop := (CB S.κ) ∧ (HB S.κ S.η) ∧ (WM S.κ S.l S.η) ∧ (LB S.l) ∧ (S.tl ≤ 600) ∧ (∀ j, S.tp j < 256) ∧ (S.rf ≤ 200) ∧ (S.bt < 2 ^ S.κ.ns) ∧ (S.br &&& S.bt = S.br) ∧ (S.w ≤ 16) ∧ (∀ k, k < S.w → HB S.κ (S.ps k)) ∧ (S.im ≤ 3) ∧ (∀ i, i < S.im → S.iw i ≤ 16) ∧ (∀ i k, i < S.im → k ≤ S.iw i → HB S.κ (S.ip i k)) ∧ (S.η.mi ≤ 400) ∧ (∀ k, k < S.w → (S.ps k).mi ≤ 400) ∧ (∀ i k, i < S.im → k ≤ S.iw i → (S.ip i k).mi ≤ 400)
theorem SB.cb {S : STT} (h_ : SB S) : CB S.κ := h_.1
theorem SB.hb {S : STT} (h_ : SB S) : HB S.κ S.η := h_.2.1
theorem SB.wm {S : STT} (h_ : SB S) : WM S.κ S.l S.η := h_.2.2.1
theorem SB.lb {S : STT} (h_ : SB S) : LB S.l := h_.2.2.2.1
theorem SB.tl {S : STT} (h_ : SB S) : S.tl ≤ 600 := h_.2.2.2.2.1
theorem SB.tp {S : STT} (h_ : SB S) : ∀ j, S.tp j < 256 := h_.2.2.2.2.2.1
theorem SB.rf {S : STT} (h_ : SB S) : S.rf ≤ 200 := h_.2.2.2.2.2.2.1
theorem SB.bt {S : STT} (h_ : SB S) : S.bt < 2 ^ S.κ.ns := h_.2.2.2.2.2.2.2.1
theorem SB.br {S : STT} (h_ : SB S) : S.br &&& S.bt = S.br := h_.2.2.2.2.2.2.2.2.1
theorem SB.w {S : STT} (h_ : SB S) : S.w ≤ 16 := h_.2.2.2.2.2.2.2.2.2.1
theorem SB.ps {S : STT} (h_ : SB S) : ∀ k, k < S.w → HB S.κ (S.ps k) := h_.2.2.2.2.2.2.2.2.2.2.1
theorem SB.im {S : STT} (h_ : SB S) : S.im ≤ 3 := h_.2.2.2.2.2.2.2.2.2.2.2.1
theorem SB.iw {S : STT} (h_ : SB S) : ∀ i, i < S.im → S.iw i ≤ 16 := h_.2.2.2.2.2.2.2.2.2.2.2.2.1
theorem SB.ip {S : STT} (h_ : SB S) : ∀ i k, i < S.im → k ≤ S.iw i → HB S.κ (S.ip i k) := h_.2.2.2.2.2.2.2.2.2.2.2.2.2.1
theorem SB.m4 {S : STT} (h_ : SB S) : S.η.mi ≤ 400 := h_.2.2.2.2.2.2.2.2.2.2.2.2.2.2.1
theorem SB.pm {S : STT} (h_ : SB S) : ∀ k, k < S.w → (S.ps k).mi ≤ 400 := h_.2.2.2.2.2.2.2.2.2.2.2.2.2.2.2.1
theorem SB.qm {S : STT} (h_ : SB S) : ∀ i k, i < S.im → k ≤ S.iw i → (S.ip i k).mi ≤ 400 := h_.2.2.2.2.2.2.2.2.2.2.2.2.2.2.2.2
def CIn (S : STT) (I : Nat → Nat → Int32) : Prop := (HC 4 S.κ I) ∧ (HH 71 S.η I) ∧ (HL 46 S.l I) ∧ (I 1 1 = nI S.tl) ∧ (I 1 8 = S.fp) ∧ (∀ j, j < 600 → I 3 j = nI (S.tp j)) ∧ (I 0 12 = nI S.rf) ∧ (I 0 13 = S.r0) ∧ (I 0 14 = S.r1) ∧ (I 60 0 = nI S.bt) ∧ (I 60 1 = nI S.br) ∧ (I 82 3 = nI S.w) ∧ (I 82 4 = nI S.im) ∧ (∀ k, k < S.w → CS 84 (23 * k) (S.ps k) I) ∧ (∀ i, i < S.im → I 88 i = nI (S.iw i)) ∧ (∀ i k, i < S.im → k ≤ S.iw i → CS 86 (391 * i + 23 * k) (S.ip i k) I) ∧ (SK I)
theorem CIn.hc {S : STT} {I : Nat → Nat → Int32} (h_ : CIn S I) : HC 4 S.κ I := h_.1
theorem CIn.hh {S : STT} {I : Nat → Nat → Int32} (h_ : CIn S I) : HH 71 S.η I := h_.2.1
theorem CIn.hl {S : STT} {I : Nat → Nat → Int32} (h_ : CIn S I) : HL 46 S.l I := h_.2.2.1
theorem CIn.tl {S : STT} {I : Nat → Nat → Int32} (h_ : CIn S I) : I 1 1 = nI S.tl := h_.2.2.2.1
theorem CIn.fp {S : STT} {I : Nat → Nat → Int32} (h_ : CIn S I) : I 1 8 = S.fp := h_.2.2.2.2.1
theorem CIn.tp {S : STT} {I : Nat → Nat → Int32} (h_ : CIn S I) : ∀ j, j < 600 → I 3 j = nI (S.tp j) := h_.2.2.2.2.2.1
theorem CIn.rf {S : STT} {I : Nat → Nat → Int32} (h_ : CIn S I) : I 0 12 = nI S.rf := h_.2.2.2.2.2.2.1
theorem CIn.r0 {S : STT} {I : Nat → Nat → Int32} (h_ : CIn S I) : I 0 13 = S.r0 := h_.2.2.2.2.2.2.2.1
theorem CIn.r1 {S : STT} {I : Nat → Nat → Int32} (h_ : CIn S I) : I 0 14 = S.r1 := h_.2.2.2.2.2.2.2.2.1
theorem CIn.bt {S : STT} {I : Nat → Nat → Int32} (h_ : CIn S I) : I 60 0 = nI S.bt := h_.2.2.2.2.2.2.2.2.2.1
theorem CIn.br {S : STT} {I : Nat → Nat → Int32} (h_ : CIn S I) : I 60 1 = nI S.br := h_.2.2.2.2.2.2.2.2.2.2.1
theorem CIn.w {S : STT} {I : Nat → Nat → Int32} (h_ : CIn S I) : I 82 3 = nI S.w := h_.2.2.2.2.2.2.2.2.2.2.2.1
theorem CIn.im {S : STT} {I : Nat → Nat → Int32} (h_ : CIn S I) : I 82 4 = nI S.im := h_.2.2.2.2.2.2.2.2.2.2.2.2.1
theorem CIn.ps {S : STT} {I : Nat → Nat → Int32} (h_ : CIn S I) : ∀ k, k < S.w → CS 84 (23 * k) (S.ps k) I := h_.2.2.2.2.2.2.2.2.2.2.2.2.2.1
theorem CIn.iw {S : STT} {I : Nat → Nat → Int32} (h_ : CIn S I) : ∀ i, i < S.im → I 88 i = nI (S.iw i) := h_.2.2.2.2.2.2.2.2.2.2.2.2.2.2.1
theorem CIn.ip {S : STT} {I : Nat → Nat → Int32} (h_ : CIn S I) : ∀ i k, i < S.im → k ≤ S.iw i → CS 86 (391 * i + 23 * k) (S.ip i k) I := h_.2.2.2.2.2.2.2.2.2.2.2.2.2.2.2.1
theorem CIn.sk {S : STT} {I : Nat → Nat → Int32} (h_ : CIn S I) : SK I := h_.2.2.2.2.2.2.2.2.2.2.2.2.2.2.2.2
def MIn (S : STT) (I : Nat → Nat → Int32) : Prop := (MC S.κ I) ∧ (MR 125 S.κ S.η I) ∧ (ML S.l I) ∧ (I 106 2 = nI S.tl) ∧ (I 106 8 = S.fp) ∧ (∀ j, j < 600 → I 108 j = nI (S.tp j)) ∧ (I 106 38 = nI S.rf) ∧ (I 107 0 = S.r0) ∧ (I 107 1 = S.r1) ∧ (I 106 47 = nI (pc9 S.bt)) ∧ (∀ j, j < 9 → I 129 j = if S.bt.testBit j = true then nI (S.br.testBit j).toNat else zI (-1)) ∧ (I 106 37 = nI S.w) ∧ (I 106 55 = nI S.im) ∧ (∀ k, k < S.w → MS 127 (31 * k) S.κ (S.ps k) I) ∧ (∀ i, i < S.im → I 134 (528 * i + 527) = nI (S.iw i)) ∧ (∀ i, i < S.im → MS 134 (528 * i) S.κ (S.ip i (S.iw i)) I) ∧ (∀ i k, i < S.im → k < S.iw i → MS 134 (528 * i + 31 + 31 * k) S.κ (S.ip i k) I)
theorem MIn.mc {S : STT} {I : Nat → Nat → Int32} (h_ : MIn S I) : MC S.κ I := h_.1
theorem MIn.mr {S : STT} {I : Nat → Nat → Int32} (h_ : MIn S I) : MR 125 S.κ S.η I := h_.2.1
theorem MIn.ml {S : STT} {I : Nat → Nat → Int32} (h_ : MIn S I) : ML S.l I := h_.2.2.1
theorem MIn.tl {S : STT} {I : Nat → Nat → Int32} (h_ : MIn S I) : I 106 2 = nI S.tl := h_.2.2.2.1
theorem MIn.fp {S : STT} {I : Nat → Nat → Int32} (h_ : MIn S I) : I 106 8 = S.fp := h_.2.2.2.2.1
theorem MIn.tp {S : STT} {I : Nat → Nat → Int32} (h_ : MIn S I) : ∀ j, j < 600 → I 108 j = nI (S.tp j) := h_.2.2.2.2.2.1
theorem MIn.rf {S : STT} {I : Nat → Nat → Int32} (h_ : MIn S I) : I 106 38 = nI S.rf := h_.2.2.2.2.2.2.1
theorem MIn.r0 {S : STT} {I : Nat → Nat → Int32} (h_ : MIn S I) : I 107 0 = S.r0 := h_.2.2.2.2.2.2.2.1
theorem MIn.r1 {S : STT} {I : Nat → Nat → Int32} (h_ : MIn S I) : I 107 1 = S.r1 := h_.2.2.2.2.2.2.2.2.1
theorem MIn.wt {S : STT} {I : Nat → Nat → Int32} (h_ : MIn S I) : I 106 47 = nI (pc9 S.bt) := h_.2.2.2.2.2.2.2.2.2.1
theorem MIn.bk {S : STT} {I : Nat → Nat → Int32} (h_ : MIn S I) : ∀ j, j < 9 → I 129 j = if S.bt.testBit j = true then nI (S.br.testBit j).toNat else zI (-1) := h_.2.2.2.2.2.2.2.2.2.2.1
theorem MIn.w {S : STT} {I : Nat → Nat → Int32} (h_ : MIn S I) : I 106 37 = nI S.w := h_.2.2.2.2.2.2.2.2.2.2.2.1
theorem MIn.im {S : STT} {I : Nat → Nat → Int32} (h_ : MIn S I) : I 106 55 = nI S.im := h_.2.2.2.2.2.2.2.2.2.2.2.2.1
theorem MIn.ps {S : STT} {I : Nat → Nat → Int32} (h_ : MIn S I) : ∀ k, k < S.w → MS 127 (31 * k) S.κ (S.ps k) I := h_.2.2.2.2.2.2.2.2.2.2.2.2.2.1
theorem MIn.iw {S : STT} {I : Nat → Nat → Int32} (h_ : MIn S I) : ∀ i, i < S.im → I 134 (528 * i + 527) = nI (S.iw i) := h_.2.2.2.2.2.2.2.2.2.2.2.2.2.2.1
theorem MIn.ic {S : STT} {I : Nat → Nat → Int32} (h_ : MIn S I) : ∀ i, i < S.im → MS 134 (528 * i) S.κ (S.ip i (S.iw i)) I := h_.2.2.2.2.2.2.2.2.2.2.2.2.2.2.2.1
theorem MIn.ip {S : STT} {I : Nat → Nat → Int32} (h_ : MIn S I) : ∀ i k, i < S.im → k < S.iw i → MS 134 (528 * i + 31 + 31 * k) S.κ (S.ip i k) I := h_.2.2.2.2.2.2.2.2.2.2.2.2.2.2.2.2
def INVS (S : STT) (I : Nat → Nat → Int32) : Prop := SB S ∧ CIn S I ∧ MIn S I
def sco (o : Nat) : Bool := [50, 52, 61, 89, 91, 93, 109, 110, 111, 112, 117, 118, 121, 122, 123, 124, 126, 128, 130, 131, 132].contains o || (Nat.ble 53 o && Nat.ble o 59) || (Nat.ble 62 o && Nat.ble o 70) || (Nat.ble 94 o && Nat.ble o 105)
def scf (j : Nat) : Bool := [0, 3, 4, 5, 6, 7, 18, 19, 20, 21, 31, 36, 39, 40, 41, 50, 53].contains j
/-- all but what is worked with stays -/
def FR (I I' : Nat → Nat → Int32) : Prop := (∀ j, scf j = false → I' 106 j = I 106 j) ∧ ∀ o, o ≠ 106 → sco o = false → I' o = I o
theorem FR.rf {I : Nat → Nat → Int32} : FR I I := ⟨fun _ _ => rfl, fun _ _ _ => rfl⟩
theorem FR.tr {I I1 I2 : Nat → Nat → Int32} (h : FR I I1) (h2 : FR I1 I2) : FR I I2 := ⟨fun j hj => (h2.1 j hj).trans (h.1 j hj), fun o ho hs => (h2.2 o ho hs).trans (h.2 o ho hs)⟩
theorem FR.lw {I I' : Nat → Nat → Int32} (h : ∀ o, o ≠ 50 → o ≠ 52 → I' o = I o) : FR I I' := ⟨fun j _ => by rw [h 106 (by decide) (by decide)], fun o _ hs => h o (fun e => by subst e; exact absurd hs (by decide)) (fun e => by subst e; exact absurd hs (by decide))⟩
theorem FM.fr {I I' : Nat → Nat → Int32} (h : FM I I') : FR I I' := ⟨fun j hj => h.1 j (fun e => by subst e; exact absurd hj (by decide)), fun o ho hs => h.2.2 o ho (fun e => by subst e; exact absurd hs (by decide)) (fun e => by subst e; exact absurd hs (by decide)) (fun e => by subst e; exact absurd hs (by decide))⟩
theorem FM.th {I I' : Nat → Nat → Int32} (h : FM I I') : I' 106 0 = nI 0 := h.2.1
theorem MC.fr9 {κ : CT} {I I' : Nat → Nat → Int32} (h : MC κ I) (e0 : ∀ j, scf j = false → I' 106 j = I 106 j) (e : ∀ x, 113 ≤ x → x ≤ 116 → I' x = I x) : MC κ I' := by
  unfold MC at h ⊢
  rw [e0 22 (by decide), e0 23 (by decide), e0 24 (by decide), e0 25 (by decide), e 113 (by omega) (by omega), e 114 (by omega) (by omega), e 115 (by omega) (by omega), e 116 (by omega) (by omega)]
  exact h
theorem ML.fr9 {l : LW} {I I' : Nat → Nat → Int32} (h : ML l I) (e0 : I' 106 32 = I 106 32) (h2 : I' 119 = I 119) (h3 : I' 120 = I 120) : ML l I' := h.elim (fun h => Or.inl ⟨by rw [e0]; exact h.n, by rw [h2]; exact h.w, by rw [h3]; exact h.o⟩) (fun h => Or.inr ⟨by rw [e0]; exact h.n, h.n1, h.w, h.o⟩)
/-- the class's part rests on these alone -/
theorem CIn.fr {S : STT} {I I' : Nat → Nat → Int32} (h : CIn S I) (h0 : I' 0 = I 0) (h1 : I' 1 1 = I 1 1) (h8 : I' 1 8 = I 1 8) (h3 : I' 3 = I 3) (hc : ∀ o, 4 ≤ o → o ≤ 45 → I' o = I o) (h46 : I' 46 = I 46) (h48 : I' 48 = I 48) (h60 : I' 60 = I 60) (hh : ∀ o, 71 ≤ o → o ≤ 88 → I' o = I o) : CIn S I' :=
  ⟨h.hc.fr (fun x a b => hc x a (by omega)), h.hh.fr (fun x a b => hh x a (by omega)), h.hl.fr h46 h48, by rw [h1]; exact h.tl, by rw [h8]; exact h.fp, by rw [h3]; exact h.tp, by rw [h0]; exact h.rf, by rw [h0]; exact h.r0, by rw [h0]; exact h.r1, by rw [h60]; exact h.bt, by rw [h60]; exact h.br, by rw [hh 82 (by omega) (by omega)]; exact h.w, by rw [hh 82 (by omega) (by omega)]; exact h.im,
   fun k hk => by have := h.ps k hk; unfold CS at this ⊢; rw [hh 84 (by omega) (by omega)]; exact this, by rw [hh 88 (by omega) (by omega)]; exact h.iw, fun i k hi hk => by have := h.ip i k hi hk; unfold CS at this ⊢; rw [hh 86 (by omega) (by omega)]; exact this, h.sk.fr (fun o a b => hc o (by omega) b)⟩
theorem MIn.fr {S : STT} {I I' : Nat → Nat → Int32} (h : MIn S I) (h106 : ∀ j, scf j = false → I' 106 j = I 106 j) (h107 : I' 107 = I 107) (h108 : I' 108 = I 108) (hm : ∀ o, 113 ≤ o → o ≤ 116 → I' o = I o) (h119 : I' 119 = I 119) (h120 : I' 120 = I 120) (h125 : I' 125 = I 125) (h127 : I' 127 = I 127) (h129 : I' 129 = I 129) (h134 : I' 134 = I 134) : MIn S I' :=
  ⟨h.mc.fr9 h106 hm, h.mr.fr h125, h.ml.fr9 (h106 32 (by decide)) h119 h120, by rw [h106 2 (by decide)]; exact h.tl, by rw [h106 8 (by decide)]; exact h.fp, by rw [h108]; exact h.tp, by rw [h106 38 (by decide)]; exact h.rf, by rw [h107]; exact h.r0, by rw [h107]; exact h.r1, by rw [h106 47 (by decide)]; exact h.wt, by rw [h129]; exact h.bk, by rw [h106 37 (by decide)]; exact h.w, by rw [h106 55 (by decide)]; exact h.im,
   fun k hk => by have := h.ps k hk; unfold MS at this ⊢; rw [h127]; exact this, by rw [h134]; exact h.iw, fun i hi => by have := h.ic i hi; unfold MS at this ⊢; rw [h134]; exact this, fun i k hi hk => by have := h.ip i k hi hk; unfold MS at this ⊢; rw [h134]; exact this⟩
theorem CIn.fR {S : STT} {I I' : Nat → Nat → Int32} (h : CIn S I) (f : FR I I') : CIn S I' := by
  have e : ∀ o, o ≠ 106 → sco o = false → I' o = I o := f.2
  refine h.fr (e 0 (by decide) rfl) (by rw [e 1 (by decide) rfl]) (by rw [e 1 (by decide) rfl]) (e 3 (by decide) rfl) (fun o h1 h2 => e o (by omega) ?_) (e 46 (by decide) rfl) (e 48 (by decide) rfl) (e 60 (by decide) rfl) (fun o h1 h2 => e o (by omega) ?_)
  · exact (by decide +kernel : ∀ o, o < 46 → sco o = false) o (by omega)
  · exact (by decide +kernel : ∀ o, o < 89 → 71 ≤ o → sco o = false) o (by omega) h1
theorem MIn.fR {S : STT} {I I' : Nat → Nat → Int32} (h : MIn S I) (f : FR I I') : MIn S I' := by
  have e : ∀ o, o ≠ 106 → sco o = false → I' o = I o := f.2
  refine h.fr f.1 (e 107 (by decide) rfl) (e 108 (by decide) rfl) (fun o h1 h2 => e o (by omega) ?_) (e 119 (by decide) rfl) (e 120 (by decide) rfl) (e 125 (by decide) rfl) (e 127 (by decide) rfl) (e 129 (by decide) rfl) (e 134 (by decide) rfl)
  exact (by decide +kernel : ∀ o, o < 117 → 113 ≤ o → sco o = false) o (by omega) h1
/-- the class alone, the model alone was at work -/
def LOf (I I' : Nat → Nat → Int32) : Prop := ∀ o, 106 ≤ o → I' o = I o
def HIf (I I' : Nat → Nat → Int32) : Prop := ∀ o, o < 106 → I' o = I o
theorem MIn.lo {S : STT} {I I' : Nat → Nat → Int32} (h : MIn S I) (f : LOf I I') : MIn S I' := h.fr (fun j _ => by rw [f 106 (by omega)]) (f _ (by omega)) (f _ (by omega)) (fun o h1 _ => f o (by omega)) (f _ (by omega)) (f _ (by omega)) (f _ (by omega)) (f _ (by omega)) (f _ (by omega)) (f _ (by omega))
theorem CIn.hi {S : STT} {I I' : Nat → Nat → Int32} (h : CIn S I) (f : HIf I I') : CIn S I' := h.fr (f _ (by omega)) (by rw [f 1 (by omega)]) (by rw [f 1 (by omega)]) (f _ (by omega)) (fun o _ h2 => f o (by omega)) (f _ (by omega)) (f _ (by omega)) (f _ (by omega)) (fun o _ h2 => f o (by omega))
def ANSV (jc jm : Nat) (as : List Value) (I : Nat → Nat → Int32) : Prop := ∀ J, ∃ v I1, Cl 40 jc (.ref 0 :: as) (hp I J) (.inl (some (.int v))) (hp I1 J) 0 ∧ ∀ J', ∃ I2 S', Cl 40 jm (.ref 106 :: as) (hp I1 J') (.inl (some (.int v))) (hp I2 J') 0 ∧ INVS S' I2 ∧ I2 106 0 = nI 0
def ANSX (jc jm : Nat) (as : List Value) (e c : Nat) (I : Nat → Nat → Int32) : Prop := ∀ J, ∃ I1, Cl 40 jc (.ref 0 :: as) (hp I J) (.inr e) (hp I1 J) 1 ∧ ∀ J', ∃ b I2 S', Cl 40 jm (.ref 106 :: as) (hp I1 J') (.inl (some (.int b))) (hp I2 J') 0 ∧ INVS S' I2 ∧ I2 106 0 = nI c
def ANS (jc jm : Nat) (as : List Value) (c0 c1 : Nat) (I : Nat → Nat → Int32) : Prop := ANSV jc jm as I ∨ ANSX jc jm as 0 c0 I ∨ ANSX jc jm as 1 c1 I
theorem RV.ri {d j : Nat} {as : List Value} {I : Nat → Nat → Int32} {J : Nat → Nat → Int64} {v : Int32} (h : RV d j as I J v) : RI d j as I J (fun x I' => x = v ∧ FR I I') := ⟨v, I, ⟨rfl, FR.rf⟩, h⟩
theorem RI.mono {d j : Nat} {as : List Value} {I : Nat → Nat → Int32} {J : Nat → Nat → Int64} {P P2 : Int32 → (Nat → Nat → Int32) → Prop} (h : RI d j as I J P) (hp : ∀ v I', P v I' → P2 v I') : RI d j as I J P2 := by
  obtain ⟨v, I', h1, h2⟩ := h
  exact ⟨v, I', hp v I' h1, h2⟩
theorem RI.fm {d j : Nat} {as : List Value} {I : Nat → Nat → Int32} {J : Nat → Nat → Int64} {v : Int32} (h : RI d j as I J (fun x I' => x = v ∧ FM I I')) : RI d j as I J (fun x I' => x = v ∧ FR I I' ∧ I' 106 0 = nI 0) := h.mono (fun _ _ q => ⟨q.1, q.2.fr, q.2.th⟩)
/-- a question: both answer the same, nothing changes -/
theorem ANSV.q {S : STT} {jc jm : Nat} {as : List Value} {I : Nat → Nat → Int32} {v : Int32} (inv : INVS S I) (hC : ∀ J, RI 40 jc (.ref 0 :: as) I J (fun x I' => x = v ∧ FR I I')) (hM : ∀ I J, MIn S I → RI 40 jm (.ref 106 :: as) I J (fun x I' => x = v ∧ FR I I' ∧ I' 106 0 = nI 0)) : ANSV jc jm as I := by
  intro J
  obtain ⟨x, I1, ⟨e1, f1⟩, h1⟩ := hC J
  subst e1
  refine ⟨x, I1, h1, fun J' => ?_⟩
  have m1 := inv.2.2.fR f1
  obtain ⟨y, I2, ⟨e2, f2, t2⟩, h2⟩ := hM I1 J' m1
  subst e2
  exact ⟨I2, S, h2, ⟨inv.1, (inv.2.1.fR f1).fR f2, m1.fR f2⟩, t2⟩
/-- a call that changes: the state behind it the same in both -/
theorem ANSV.s {S S' : STT} {jc jm : Nat} {as : List Value} {I : Nat → Nat → Int32} {v : Int32} (inv : INVS S I) (sb : SB S') (hC : ∀ J, RI 40 jc (.ref 0 :: as) I J (fun x I' => x = v ∧ CIn S' I' ∧ LOf I I')) (hM : ∀ I J, MIn S I → RI 40 jm (.ref 106 :: as) I J (fun x I' => x = v ∧ MIn S' I' ∧ HIf I I' ∧ I' 106 0 = nI 0)) : ANSV jc jm as I := by
  intro J
  obtain ⟨x, I1, ⟨e1, c1, f1⟩, h1⟩ := hC J
  subst e1
  refine ⟨x, I1, h1, fun J' => ?_⟩
  obtain ⟨y, I2, ⟨e2, m2, f2, t2⟩, h2⟩ := hM I1 J' (inv.2.2.lo f1)
  subst e2
  exact ⟨I2, S', h2, ⟨sb, c1.hi f2, m2⟩, t2⟩
def STT.ref (S : STT) (k : Nat) : STT := STT.mk S.κ S.l S.η S.tl S.tp S.rf S.bt S.br S.fp S.w S.ps S.im S.iw S.ip (if k = 0 then S.r0 + 1 else S.r0) (if k = 0 then S.r1 else S.r1 + 1)
theorem refC_in {S : STT} {I : Nat → Nat → Int32} {k : Nat} (hk : k < 2) (h : CIn S I) : CIn (S.ref k) (ref1 I (13 + k)) := by
  have e : ∀ o, o ≠ 0 → ref1 I (13 + k) o = I o := fun o ho => wr_row ho
  exact ⟨h.hc.fr (fun x a b => e x (by omega)), h.hh.fr (fun x a b => e x (by omega)), h.hl.fr (e _ (by decide)) (e _ (by decide)), by rw [e 1 (by decide)]; exact h.tl, by rw [e 1 (by decide)]; exact h.fp, by rw [e 3 (by decide)]; exact h.tp, (wr_ne (by omega)).trans h.rf,
   by obtain rfl | rfl : k = 0 ∨ k = 1 := by omega
      · exact wr_same.trans (congrArg (· + 1) h.r0)
      · exact (wr_ne (by omega)).trans h.r0,
   by obtain rfl | rfl : k = 0 ∨ k = 1 := by omega
      · exact (wr_ne (by omega)).trans h.r1
      · exact wr_same.trans (congrArg (· + 1) h.r1),
   by rw [e 60 (by decide)]; exact h.bt, by rw [e 60 (by decide)]; exact h.br, by rw [e 82 (by decide)]; exact h.w, by rw [e 82 (by decide)]; exact h.im,
   fun k hk => by have := h.ps k hk; unfold CS at this ⊢; rw [e 84 (by decide)]; exact this, by rw [e 88 (by decide)]; exact h.iw, fun i k hi hk => by have := h.ip i k hi hk; unfold CS at this ⊢; rw [e 86 (by decide)]; exact this, h.sk.fr (fun o a _ => e o (by omega))⟩
theorem refM_in {S : STT} {I : Nat → Nat → Int32} {c k : Nat} (hk : k < 2) (h : MIn S I) : MIn (S.ref k) (refM I c k) := by
  have e : ∀ o, o ≠ 106 → o ≠ 107 → refM I c k o = I o := fun o h1 h2 => (wr_row h2).trans ((wr_row h1).trans (wr_row h1))
  have e6 : ∀ j, scf j = false → refM I c k 106 j = I 106 j := fun j hj => (wr_ne (by omega)).trans ((wr_ne (Or.inr (fun z => by subst z; exact absurd hj (by decide)))).trans (wr_ne (Or.inr (fun z => by subst z; exact absurd hj (by decide)))))
  have e7 : ∀ j, wr (wr I 106 0 (nI 0)) 106 0 (nI c) 107 j = I 107 j := fun j => (wr_ne (by omega)).trans (wr_ne (by omega))
  exact ⟨h.mc.fr9 e6 (fun x _ _ => e x (by omega) (by omega)), h.mr.fr (e _ (by decide) (by decide)), h.ml.fr9 (e6 32 (by decide)) (e _ (by decide) (by decide)) (e _ (by decide) (by decide)), by rw [e6 2 (by decide)]; exact h.tl, by rw [e6 8 (by decide)]; exact h.fp, by rw [e 108 (by decide) (by decide)]; exact h.tp, by rw [e6 38 (by decide)]; exact h.rf,
   by obtain rfl | rfl : k = 0 ∨ k = 1 := by omega
      · exact wr_same.trans (congrArg (· + nI 1) h.r0)
      · exact (wr_ne (by omega)).trans ((e7 0).trans h.r0),
   by obtain rfl | rfl : k = 0 ∨ k = 1 := by omega
      · exact (wr_ne (by omega)).trans ((e7 1).trans h.r1)
      · exact wr_same.trans (congrArg (· + nI 1) h.r1),
   by rw [e6 47 (by decide)]; exact h.wt, by rw [e 129 (by decide) (by decide)]; exact h.bk, by rw [e6 37 (by decide)]; exact h.w, by rw [e6 55 (by decide)]; exact h.im,
   fun k hk => by have := h.ps k hk; unfold MS at this ⊢; rw [e 127 (by decide) (by decide)]; exact this, by rw [e 134 (by decide) (by decide)]; exact h.iw, fun i hi => by have := h.ic i hi; unfold MS at this ⊢; rw [e 134 (by decide) (by decide)]; exact this, fun i k hi hk => by have := h.ip i k hi hk; unfold MS at this ⊢; rw [e 134 (by decide) (by decide)]; exact this⟩
theorem SB.ref {S : STT} (h : SB S) (k : Nat) : SB (S.ref k) := h
/-- both refuse -/
theorem ANSX.q {S : STT} {jc jm : Nat} {as : List Value} {I : Nat → Nat → Int32} {e c : Nat} (inv : INVS S I) (he : e < 2) (hC : ∀ J, RX 40 jc (.ref 0 :: as) I J e (fun I' => I' = ref1 I (13 + e))) (hM : ∀ I J, MIn S I → RI 40 jm (.ref 106 :: as) I J (fun _ I' => I' = refM I c e)) : ANSX jc jm as e c I := by
  intro J
  obtain ⟨I1, rfl, h1⟩ := hC J
  refine ⟨_, h1, fun J' => ?_⟩
  have m1 : MIn S (ref1 I (13 + e)) := inv.2.2.lo (fun o ho => wr_row (by omega))
  obtain ⟨b, I2, rfl, h2⟩ := hM _ J' m1
  refine ⟨b, _, S.ref e, h2, ⟨inv.1.ref e, (refC_in he inv.2.1).hi (fun o ho => ?_), refM_in he m1⟩, ?_⟩
  · exact (wr_row (by omega)).trans ((wr_row (by omega)).trans (wr_row (by omega)))
  · exact (wr_ne (by omega)).trans wr_same
theorem RX.mono {d j : Nat} {as : List Value} {I : Nat → Nat → Int32} {J : Nat → Nat → Int64} {e : Nat} {P P2 : (Nat → Nat → Int32) → Prop} (h : RX d j as I J e P) (hp : ∀ I', P I' → P2 I') : RX d j as I J e P2 := by
  obtain ⟨I', h1, h2⟩ := h
  exact ⟨I', hp I' h1, h2⟩


