/-! A COURT is read: the class. -/
theorem RD.fr {g : Nat → Nat} {n : Nat} {r : RST} {I I' : Nat → Nat → Int32} (h : RD g n r I) (e : I' 1 = I 1) : RD g n r I' := by
  cases r with
  | inl s =>
    have h2 : RG g n s I := h
    show RG g n s I'
    unfold RG RCp at h2 ⊢
    rw [e]
    exact h2
  | inr q =>
    obtain ⟨k, f⟩ := q
    have h2 : RB n k f I := h
    show RB n k f I'
    unfold RB at h2 ⊢
    rw [e]
    exact h2
theorem c_numZ {d : Nat} {I : Nat → Nat → Int32} {J : Nat → Nat → Int64} {g : Nat → Nat} {n : Nat} {r : RST} {hi : Int} (tp : ∀ j, j < 600 → I 3 j = nI (g j)) (gb : ∀ j, g j < 256) (hn : n ≤ 600) (rd : RD g n r I) (h1 : -1 ≤ hi) (h2 : hi ≤ 9999) (hd : 4 ≤ d) : RI d 85 [.ref 1, .int (nI 0), .int (zI hi)] I J (fun v I' => ∃ x, v = nI x ∧ RD g n (tkN g n 0 hi r).2 I' ∧ (∀ s2, (tkN g n 0 hi r).2 = .inl s2 → x = (tkN g n 0 hi r).1) ∧ RO I I') := by
  refine (c_num (J := J) (lo := 0) tp gb hn rd (by omega) h1 h2 hd).mono (fun v I' p => ?_)
  obtain ⟨p1, p2, p3, p4⟩ := p
  cases e : (tkN g n 0 hi r).2 with
  | inl s2 =>
    rw [e] at p1
    exact ⟨_, p2 s2 e, p1, fun _ _ => rfl, p4⟩
  | inr q =>
    rw [e] at p1
    exact ⟨0, p3 q e, p1, fun s2 z => absurd z (by simp), p4⟩
/-- the Reader and the scratch court alone were at work -/
def DF (I I' : Nat → Nat → Int32) : Prop := ∀ o, o ≠ 1 → (o < 25 ∨ 45 < o) → I' o = I o
theorem DF.rf {I : Nat → Nat → Int32} : DF I I := fun _ _ _ => rfl
theorem DF.tr {I I1 I2 : Nat → Nat → Int32} (h : DF I I1) (h2 : DF I1 I2) : DF I I2 := fun o a b => (h2 o a b).trans (h o a b)
theorem RO.df {I I' : Nat → Nat → Int32} (h : RO I I') : DF I I' := fun o a _ => h o a
theorem wr_cg {I I2 : Nat → Nat → Int32} {o k : Nat} {v : Int32} (h : I2 o = I o) : wr I2 o k v o = wr I o k v o := by
  funext j
  unfold wr
  rw [h]
theorem wr_put {I : Nat → Nat → Int32} {f : Nat → Nat} {o m k x : Nat} (h : ∀ j, j < m → I o j = nI (f j)) : ∀ j, j < m → wr I o k (nI x) o j = nI (put f k x j) := by
  intro j hj
  unfold wr put
  by_cases e : j = k
  · rw [if_pos ⟨rfl, e⟩, if_pos e]
  · rw [if_neg (fun z => e z.2), if_neg e]
    exact h j hj
theorem row_put {I I' : Nat → Nat → Int32} {f : Nat → Nat} {o m k x : Nat} (a : I' o = wr I o k (nI x) o) (h : ∀ j, j < m → I o j = nI (f j)) : ∀ j, j < m → I' o j = nI (put f k x j) := fun j hj => (congrFun a j).trans (wr_put h j hj)
theorem row_eq {I I' : Nat → Nat → Int32} {f : Nat → Nat} {o m : Nat} (a : I' o = I o) (h : ∀ j, j < m → I o j = nI (f j)) : ∀ j, j < m → I' o j = nI (f j) := fun j hj => (congrFun a j).trans (h j hj)
section HCA
variable {κ : CT} {I I' : Nat → Nat → Int32} {x y z : Nat}
theorem HC.say (h : HC 25 κ I) (c : I' 25 10 = nI (κ.ns + 1)) (c2 : ∀ j, j ≠ 10 → I' 25 j = I 25 j) (a : I' 27 = wr I 27 κ.ns (nI x) 27) (b : I' 29 = wr I 29 κ.ns (nI y) 29) (e : I' 31 = wr I 31 κ.ns (nI z) 31) (f : ∀ o, 32 ≤ o → o ≤ 45 → I' o = I o) : HC 25 (addSay κ x y z) I' :=
  ⟨c, (c2 11 (by decide)).trans h.nr, (c2 12 (by decide)).trans h.nb, (c2 13 (by decide)).trans h.nc, row_put a h.sm, row_put b h.ss, row_put e h.sw, row_eq (f 33 (by decide) (by decide)) h.r1, row_eq (f 35 (by decide) (by decide)) h.r2, row_eq (f 37 (by decide) (by decide)) h.r3, row_eq (f 39 (by decide) (by decide)) h.bm, row_eq (f 41 (by decide) (by decide)) h.bs, row_eq (f 43 (by decide) (by decide)) h.cc, row_eq (f 45 (by decide) (by decide)) h.cs⟩
theorem HC.rul (h : HC 25 κ I) (c : I' 25 11 = nI (κ.nr + 1)) (c2 : ∀ j, j ≠ 11 → I' 25 j = I 25 j) (a : I' 33 = wr I 33 κ.nr (nI x) 33) (b : I' 35 = wr I 35 κ.nr (nI y) 35) (e : I' 37 = wr I 37 κ.nr (nI z) 37) (f : ∀ o, 26 ≤ o → o ≤ 45 → o ≠ 33 → o ≠ 35 → o ≠ 37 → I' o = I o) : HC 25 (addRul κ x y z) I' :=
  ⟨(c2 10 (by decide)).trans h.ns, c, (c2 12 (by decide)).trans h.nb, (c2 13 (by decide)).trans h.nc, row_eq (f 27 (by decide) (by decide) (by decide) (by decide) (by decide)) h.sm, row_eq (f 29 (by decide) (by decide) (by decide) (by decide) (by decide)) h.ss, row_eq (f 31 (by decide) (by decide) (by decide) (by decide) (by decide)) h.sw, row_put a h.r1, row_put b h.r2, row_put e h.r3, row_eq (f 39 (by decide) (by decide) (by decide) (by decide) (by decide)) h.bm, row_eq (f 41 (by decide) (by decide) (by decide) (by decide) (by decide)) h.bs, row_eq (f 43 (by decide) (by decide) (by decide) (by decide) (by decide)) h.cc, row_eq (f 45 (by decide) (by decide) (by decide) (by decide) (by decide)) h.cs⟩
theorem HC.bir (h : HC 25 κ I) (c : I' 25 12 = nI (κ.nb + 1)) (c2 : ∀ j, j ≠ 12 → I' 25 j = I 25 j) (a : I' 39 = wr I 39 κ.nb (nI x) 39) (b : I' 41 = wr I 41 κ.nb (nI y) 41) (f : ∀ o, 26 ≤ o → o ≤ 45 → o ≠ 39 → o ≠ 41 → I' o = I o) : HC 25 (addBir κ x y) I' :=
  ⟨(c2 10 (by decide)).trans h.ns, (c2 11 (by decide)).trans h.nr, c, (c2 13 (by decide)).trans h.nc, row_eq (f 27 (by decide) (by decide) (by decide) (by decide)) h.sm, row_eq (f 29 (by decide) (by decide) (by decide) (by decide)) h.ss, row_eq (f 31 (by decide) (by decide) (by decide) (by decide)) h.sw, row_eq (f 33 (by decide) (by decide) (by decide) (by decide)) h.r1, row_eq (f 35 (by decide) (by decide) (by decide) (by decide)) h.r2, row_eq (f 37 (by decide) (by decide) (by decide) (by decide)) h.r3, row_put a h.bm, row_put b h.bs, row_eq (f 43 (by decide) (by decide) (by decide) (by decide)) h.cc, row_eq (f 45 (by decide) (by decide) (by decide) (by decide)) h.cs⟩
theorem HC.cou (h : HC 25 κ I) (c : I' 25 13 = nI (κ.nc + 1)) (c2 : ∀ j, j ≠ 13 → I' 25 j = I 25 j) (a : I' 43 = wr I 43 κ.nc (nI x) 43) (b : I' 45 = wr I 45 κ.nc (nI y) 45) (f : ∀ o, 26 ≤ o → o ≤ 45 → o ≠ 43 → o ≠ 45 → I' o = I o) : HC 25 (addCou κ x y) I' :=
  ⟨(c2 10 (by decide)).trans h.ns, (c2 11 (by decide)).trans h.nr, (c2 12 (by decide)).trans h.nb, c, row_eq (f 27 (by decide) (by decide) (by decide) (by decide)) h.sm, row_eq (f 29 (by decide) (by decide) (by decide) (by decide)) h.ss, row_eq (f 31 (by decide) (by decide) (by decide) (by decide)) h.sw, row_eq (f 33 (by decide) (by decide) (by decide) (by decide)) h.r1, row_eq (f 35 (by decide) (by decide) (by decide) (by decide)) h.r2, row_eq (f 37 (by decide) (by decide) (by decide) (by decide)) h.r3, row_eq (f 39 (by decide) (by decide) (by decide) (by decide)) h.bm, row_eq (f 41 (by decide) (by decide) (by decide) (by decide)) h.bs, row_put a h.cc, row_put b h.cs⟩
end HCA
theorem HC.ro {κ : CT} {I I' : Nat → Nat → Int32} (h : HC 25 κ I) (e : RO I I') : HC 25 κ I' := h.fr (fun x a b => e x (by omega))
theorem r_X1_readBird_0 : RW M_X1_readBird 0 (.aload_n 1) 1 0 0 1 := ⟨rfl, rfl⟩
theorem r_X1_readBird_1 : RW M_X1_readBird 1 (.aload_n 0) 1 0 0 2 := ⟨rfl, rfl⟩
theorem r_X1_readBird_2 : RW M_X1_readBird 2 (.getfield 54) 3 1 12 5 := ⟨rfl, rfl⟩
theorem r_X1_readBird_5 : RW M_X1_readBird 5 (.iconst 4) 1 0 0 6 := ⟨rfl, rfl⟩
theorem r_X1_readBird_6 : RW M_X1_readBird 6 (.if_icmp .ge 7) 3 13 0 9 := ⟨rfl, rfl⟩
theorem r_X1_readBird_9 : RW M_X1_readBird 9 (.iconst 1) 1 0 0 10 := ⟨rfl, rfl⟩
theorem r_X1_readBird_10 : RW M_X1_readBird 10 (.goto 4) 3 14 0 13 := ⟨rfl, rfl⟩
theorem r_X1_readBird_13 : RW M_X1_readBird 13 (.iconst 0) 1 0 0 14 := ⟨rfl, rfl⟩
theorem r_X1_readBird_14 : RW M_X1_readBird 14 (.invokevirtual 100) 3 87 0 17 := ⟨rfl, rfl⟩
theorem r_X1_readBird_17 : RW M_X1_readBird 17 (.ifCond .eq 49) 3 66 0 20 := ⟨rfl, rfl⟩
theorem r_X1_readBird_20 : RW M_X1_readBird 20 (.aload_n 0) 1 0 0 21 := ⟨rfl, rfl⟩
theorem r_X1_readBird_21 : RW M_X1_readBird 21 (.getfield 35) 3 1 6 24 := ⟨rfl, rfl⟩
theorem r_X1_readBird_24 : RW M_X1_readBird 24 (.aload_n 0) 1 0 0 25 := ⟨rfl, rfl⟩
theorem r_X1_readBird_25 : RW M_X1_readBird 25 (.getfield 54) 3 1 12 28 := ⟨rfl, rfl⟩
theorem r_X1_readBird_28 : RW M_X1_readBird 28 (.aload_n 1) 1 0 0 29 := ⟨rfl, rfl⟩
theorem r_X1_readBird_29 : RW M_X1_readBird 29 (.iconst 0) 1 0 0 30 := ⟨rfl, rfl⟩
theorem r_X1_readBird_30 : RW M_X1_readBird 30 (.bipush 99) 2 0 0 32 := ⟨rfl, rfl⟩
theorem r_X1_readBird_32 : RW M_X1_readBird 32 (.invokevirtual 104) 3 85 0 35 := ⟨rfl, rfl⟩
theorem r_X1_readBird_35 : RW M_X1_readBird 35 (.invokevirtual 108) 3 93 0 38 := ⟨rfl, rfl⟩
theorem r_X1_readBird_38 : RW M_X1_readBird 38 (.aload_n 0) 1 0 0 39 := ⟨rfl, rfl⟩
theorem r_X1_readBird_39 : RW M_X1_readBird 39 (.getfield 38) 3 1 7 42 := ⟨rfl, rfl⟩
theorem r_X1_readBird_42 : RW M_X1_readBird 42 (.aload_n 0) 1 0 0 43 := ⟨rfl, rfl⟩
theorem r_X1_readBird_43 : RW M_X1_readBird 43 (.getfield 54) 3 1 12 46 := ⟨rfl, rfl⟩
theorem r_X1_readBird_46 : RW M_X1_readBird 46 (.aload_n 1) 1 0 0 47 := ⟨rfl, rfl⟩
theorem r_X1_readBird_47 : RW M_X1_readBird 47 (.iconst 1) 1 0 0 48 := ⟨rfl, rfl⟩
theorem r_X1_readBird_48 : RW M_X1_readBird 48 (.bipush 20) 2 0 0 50 := ⟨rfl, rfl⟩
theorem r_X1_readBird_50 : RW M_X1_readBird 50 (.invokevirtual 104) 3 85 0 53 := ⟨rfl, rfl⟩
theorem r_X1_readBird_53 : RW M_X1_readBird 53 (.invokevirtual 108) 3 93 0 56 := ⟨rfl, rfl⟩
theorem r_X1_readBird_56 : RW M_X1_readBird 56 (.aload_n 0) 1 0 0 57 := ⟨rfl, rfl⟩
theorem r_X1_readBird_57 : RW M_X1_readBird 57 (.dup) 1 0 0 58 := ⟨rfl, rfl⟩
theorem r_X1_readBird_58 : RW M_X1_readBird 58 (.getfield 54) 3 1 12 61 := ⟨rfl, rfl⟩
theorem r_X1_readBird_61 : RW M_X1_readBird 61 (.iconst 1) 1 0 0 62 := ⟨rfl, rfl⟩
theorem r_X1_readBird_62 : RW M_X1_readBird 62 (.iadd) 1 0 0 63 := ⟨rfl, rfl⟩
theorem r_X1_readBird_63 : RW M_X1_readBird 63 (.putfield 54) 3 1 12 66 := ⟨rfl, rfl⟩
theorem r_X1_readBird_66 : RW M_X1_readBird 66 (.return_) 1 0 0 67 := ⟨rfl, rfl⟩
theorem r_X1_readClause_0 : RW M_X1_readClause 0 (.aload_n 1) 1 0 0 1 := ⟨rfl, rfl⟩
theorem r_X1_readClause_1 : RW M_X1_readClause 1 (.ldc 74) 2 1 1 3 := ⟨rfl, rfl⟩
theorem r_X1_readClause_3 : RW M_X1_readClause 3 (.invokevirtual 76) 3 84 0 6 := ⟨rfl, rfl⟩
theorem r_X1_readClause_6 : RW M_X1_readClause 6 (.ifCond .eq 11) 3 17 0 9 := ⟨rfl, rfl⟩
theorem r_X1_readClause_9 : RW M_X1_readClause 9 (.aload_n 0) 1 0 0 10 := ⟨rfl, rfl⟩
theorem r_X1_readClause_10 : RW M_X1_readClause 10 (.aload_n 1) 1 0 0 11 := ⟨rfl, rfl⟩
theorem r_X1_readClause_11 : RW M_X1_readClause 11 (.invokevirtual 80) 3 9 0 14 := ⟨rfl, rfl⟩
theorem r_X1_readClause_14 : RW M_X1_readClause 14 (.goto 59) 3 73 0 17 := ⟨rfl, rfl⟩
theorem r_X1_readClause_17 : RW M_X1_readClause 17 (.aload_n 1) 1 0 0 18 := ⟨rfl, rfl⟩
theorem r_X1_readClause_18 : RW M_X1_readClause 18 (.ldc 83) 2 2 1 20 := ⟨rfl, rfl⟩
theorem r_X1_readClause_20 : RW M_X1_readClause 20 (.invokevirtual 76) 3 84 0 23 := ⟨rfl, rfl⟩
theorem r_X1_readClause_23 : RW M_X1_readClause 23 (.ifCond .eq 11) 3 34 0 26 := ⟨rfl, rfl⟩
theorem r_X1_readClause_26 : RW M_X1_readClause 26 (.aload_n 0) 1 0 0 27 := ⟨rfl, rfl⟩
theorem r_X1_readClause_27 : RW M_X1_readClause 27 (.aload_n 1) 1 0 0 28 := ⟨rfl, rfl⟩
theorem r_X1_readClause_28 : RW M_X1_readClause 28 (.invokevirtual 85) 3 10 0 31 := ⟨rfl, rfl⟩
theorem r_X1_readClause_31 : RW M_X1_readClause 31 (.goto 42) 3 73 0 34 := ⟨rfl, rfl⟩
theorem r_X1_readClause_34 : RW M_X1_readClause 34 (.aload_n 1) 1 0 0 35 := ⟨rfl, rfl⟩
theorem r_X1_readClause_35 : RW M_X1_readClause 35 (.ldc 88) 2 3 1 37 := ⟨rfl, rfl⟩
theorem r_X1_readClause_37 : RW M_X1_readClause 37 (.invokevirtual 76) 3 84 0 40 := ⟨rfl, rfl⟩
theorem r_X1_readClause_40 : RW M_X1_readClause 40 (.ifCond .eq 11) 3 51 0 43 := ⟨rfl, rfl⟩
theorem r_X1_readClause_43 : RW M_X1_readClause 43 (.aload_n 0) 1 0 0 44 := ⟨rfl, rfl⟩
theorem r_X1_readClause_44 : RW M_X1_readClause 44 (.aload_n 1) 1 0 0 45 := ⟨rfl, rfl⟩
theorem r_X1_readClause_45 : RW M_X1_readClause 45 (.invokevirtual 90) 3 11 0 48 := ⟨rfl, rfl⟩
theorem r_X1_readClause_48 : RW M_X1_readClause 48 (.goto 25) 3 73 0 51 := ⟨rfl, rfl⟩
theorem r_X1_readClause_51 : RW M_X1_readClause 51 (.aload_n 1) 1 0 0 52 := ⟨rfl, rfl⟩
theorem r_X1_readClause_52 : RW M_X1_readClause 52 (.ldc 93) 2 4 1 54 := ⟨rfl, rfl⟩
theorem r_X1_readClause_54 : RW M_X1_readClause 54 (.invokevirtual 76) 3 84 0 57 := ⟨rfl, rfl⟩
theorem r_X1_readClause_57 : RW M_X1_readClause 57 (.ifCond .eq 11) 3 68 0 60 := ⟨rfl, rfl⟩
theorem r_X1_readClause_60 : RW M_X1_readClause 60 (.aload_n 0) 1 0 0 61 := ⟨rfl, rfl⟩
theorem r_X1_readClause_61 : RW M_X1_readClause 61 (.aload_n 1) 1 0 0 62 := ⟨rfl, rfl⟩
theorem r_X1_readClause_62 : RW M_X1_readClause 62 (.invokevirtual 94) 3 12 0 65 := ⟨rfl, rfl⟩
theorem r_X1_readClause_65 : RW M_X1_readClause 65 (.goto 8) 3 73 0 68 := ⟨rfl, rfl⟩
theorem r_X1_readClause_68 : RW M_X1_readClause 68 (.aload_n 1) 1 0 0 69 := ⟨rfl, rfl⟩
theorem r_X1_readClause_69 : RW M_X1_readClause 69 (.iconst 1) 1 0 0 70 := ⟨rfl, rfl⟩
theorem r_X1_readClause_70 : RW M_X1_readClause 70 (.invokevirtual 97) 3 88 0 73 := ⟨rfl, rfl⟩
theorem r_X1_readClause_73 : RW M_X1_readClause 73 (.return_) 1 0 0 74 := ⟨rfl, rfl⟩
theorem r_X1_readCounsel_0 : RW M_X1_readCounsel 0 (.aload_n 1) 1 0 0 1 := ⟨rfl, rfl⟩
theorem r_X1_readCounsel_1 : RW M_X1_readCounsel 1 (.aload_n 0) 1 0 0 2 := ⟨rfl, rfl⟩
theorem r_X1_readCounsel_2 : RW M_X1_readCounsel 2 (.getfield 57) 3 1 13 5 := ⟨rfl, rfl⟩
theorem r_X1_readCounsel_5 : RW M_X1_readCounsel 5 (.iconst 4) 1 0 0 6 := ⟨rfl, rfl⟩
theorem r_X1_readCounsel_6 : RW M_X1_readCounsel 6 (.if_icmp .ge 7) 3 13 0 9 := ⟨rfl, rfl⟩
theorem r_X1_readCounsel_9 : RW M_X1_readCounsel 9 (.iconst 1) 1 0 0 10 := ⟨rfl, rfl⟩
theorem r_X1_readCounsel_10 : RW M_X1_readCounsel 10 (.goto 4) 3 14 0 13 := ⟨rfl, rfl⟩
theorem r_X1_readCounsel_13 : RW M_X1_readCounsel 13 (.iconst 0) 1 0 0 14 := ⟨rfl, rfl⟩
theorem r_X1_readCounsel_14 : RW M_X1_readCounsel 14 (.invokevirtual 100) 3 87 0 17 := ⟨rfl, rfl⟩
theorem r_X1_readCounsel_17 : RW M_X1_readCounsel 17 (.ifCond .eq 49) 3 66 0 20 := ⟨rfl, rfl⟩
theorem r_X1_readCounsel_20 : RW M_X1_readCounsel 20 (.aload_n 0) 1 0 0 21 := ⟨rfl, rfl⟩
theorem r_X1_readCounsel_21 : RW M_X1_readCounsel 21 (.getfield 41) 3 1 8 24 := ⟨rfl, rfl⟩
theorem r_X1_readCounsel_24 : RW M_X1_readCounsel 24 (.aload_n 0) 1 0 0 25 := ⟨rfl, rfl⟩
theorem r_X1_readCounsel_25 : RW M_X1_readCounsel 25 (.getfield 57) 3 1 13 28 := ⟨rfl, rfl⟩
theorem r_X1_readCounsel_28 : RW M_X1_readCounsel 28 (.aload_n 1) 1 0 0 29 := ⟨rfl, rfl⟩
theorem r_X1_readCounsel_29 : RW M_X1_readCounsel 29 (.iconst 0) 1 0 0 30 := ⟨rfl, rfl⟩
theorem r_X1_readCounsel_30 : RW M_X1_readCounsel 30 (.bipush 40) 2 0 0 32 := ⟨rfl, rfl⟩
theorem r_X1_readCounsel_32 : RW M_X1_readCounsel 32 (.invokevirtual 104) 3 85 0 35 := ⟨rfl, rfl⟩
theorem r_X1_readCounsel_35 : RW M_X1_readCounsel 35 (.invokevirtual 108) 3 93 0 38 := ⟨rfl, rfl⟩
theorem r_X1_readCounsel_38 : RW M_X1_readCounsel 38 (.aload_n 0) 1 0 0 39 := ⟨rfl, rfl⟩
theorem r_X1_readCounsel_39 : RW M_X1_readCounsel 39 (.getfield 44) 3 1 9 42 := ⟨rfl, rfl⟩
theorem r_X1_readCounsel_42 : RW M_X1_readCounsel 42 (.aload_n 0) 1 0 0 43 := ⟨rfl, rfl⟩
theorem r_X1_readCounsel_43 : RW M_X1_readCounsel 43 (.getfield 57) 3 1 13 46 := ⟨rfl, rfl⟩
theorem r_X1_readCounsel_46 : RW M_X1_readCounsel 46 (.aload_n 1) 1 0 0 47 := ⟨rfl, rfl⟩
theorem r_X1_readCounsel_47 : RW M_X1_readCounsel 47 (.iconst 0) 1 0 0 48 := ⟨rfl, rfl⟩
theorem r_X1_readCounsel_48 : RW M_X1_readCounsel 48 (.bipush 9) 2 0 0 50 := ⟨rfl, rfl⟩
theorem r_X1_readCounsel_50 : RW M_X1_readCounsel 50 (.invokevirtual 104) 3 85 0 53 := ⟨rfl, rfl⟩
theorem r_X1_readCounsel_53 : RW M_X1_readCounsel 53 (.invokevirtual 108) 3 93 0 56 := ⟨rfl, rfl⟩
theorem r_X1_readCounsel_56 : RW M_X1_readCounsel 56 (.aload_n 0) 1 0 0 57 := ⟨rfl, rfl⟩
theorem r_X1_readCounsel_57 : RW M_X1_readCounsel 57 (.dup) 1 0 0 58 := ⟨rfl, rfl⟩
theorem r_X1_readCounsel_58 : RW M_X1_readCounsel 58 (.getfield 57) 3 1 13 61 := ⟨rfl, rfl⟩
theorem r_X1_readCounsel_61 : RW M_X1_readCounsel 61 (.iconst 1) 1 0 0 62 := ⟨rfl, rfl⟩
theorem r_X1_readCounsel_62 : RW M_X1_readCounsel 62 (.iadd) 1 0 0 63 := ⟨rfl, rfl⟩
theorem r_X1_readCounsel_63 : RW M_X1_readCounsel 63 (.putfield 57) 3 1 13 66 := ⟨rfl, rfl⟩
theorem r_X1_readCounsel_66 : RW M_X1_readCounsel 66 (.return_) 1 0 0 67 := ⟨rfl, rfl⟩
theorem r_X1_readRule_0 : RW M_X1_readRule 0 (.aload_n 1) 1 0 0 1 := ⟨rfl, rfl⟩
theorem r_X1_readRule_1 : RW M_X1_readRule 1 (.aload_n 0) 1 0 0 2 := ⟨rfl, rfl⟩
theorem r_X1_readRule_2 : RW M_X1_readRule 2 (.getfield 51) 3 1 11 5 := ⟨rfl, rfl⟩
theorem r_X1_readRule_5 : RW M_X1_readRule 5 (.bipush 12) 2 0 0 7 := ⟨rfl, rfl⟩
theorem r_X1_readRule_7 : RW M_X1_readRule 7 (.if_icmp .ge 7) 3 14 0 10 := ⟨rfl, rfl⟩
theorem r_X1_readRule_10 : RW M_X1_readRule 10 (.iconst 1) 1 0 0 11 := ⟨rfl, rfl⟩
theorem r_X1_readRule_11 : RW M_X1_readRule 11 (.goto 4) 3 15 0 14 := ⟨rfl, rfl⟩
theorem r_X1_readRule_14 : RW M_X1_readRule 14 (.iconst 0) 1 0 0 15 := ⟨rfl, rfl⟩
theorem r_X1_readRule_15 : RW M_X1_readRule 15 (.invokevirtual 100) 3 87 0 18 := ⟨rfl, rfl⟩
theorem r_X1_readRule_18 : RW M_X1_readRule 18 (.ifCond .eq 79) 3 97 0 21 := ⟨rfl, rfl⟩
theorem r_X1_readRule_21 : RW M_X1_readRule 21 (.aload_n 0) 1 0 0 22 := ⟨rfl, rfl⟩
theorem r_X1_readRule_22 : RW M_X1_readRule 22 (.getfield 26) 3 1 3 25 := ⟨rfl, rfl⟩
theorem r_X1_readRule_25 : RW M_X1_readRule 25 (.aload_n 0) 1 0 0 26 := ⟨rfl, rfl⟩
theorem r_X1_readRule_26 : RW M_X1_readRule 26 (.getfield 51) 3 1 11 29 := ⟨rfl, rfl⟩
theorem r_X1_readRule_29 : RW M_X1_readRule 29 (.aload_n 1) 1 0 0 30 := ⟨rfl, rfl⟩
theorem r_X1_readRule_30 : RW M_X1_readRule 30 (.iconst 0) 1 0 0 31 := ⟨rfl, rfl⟩
theorem r_X1_readRule_31 : RW M_X1_readRule 31 (.aload_n 0) 1 0 0 32 := ⟨rfl, rfl⟩
theorem r_X1_readRule_32 : RW M_X1_readRule 32 (.getfield 47) 3 1 10 35 := ⟨rfl, rfl⟩
theorem r_X1_readRule_35 : RW M_X1_readRule 35 (.iconst 1) 1 0 0 36 := ⟨rfl, rfl⟩
theorem r_X1_readRule_36 : RW M_X1_readRule 36 (.isub) 1 0 0 37 := ⟨rfl, rfl⟩
theorem r_X1_readRule_37 : RW M_X1_readRule 37 (.invokevirtual 104) 3 85 0 40 := ⟨rfl, rfl⟩
theorem r_X1_readRule_40 : RW M_X1_readRule 40 (.invokevirtual 108) 3 93 0 43 := ⟨rfl, rfl⟩
theorem r_X1_readRule_43 : RW M_X1_readRule 43 (.aload_n 0) 1 0 0 44 := ⟨rfl, rfl⟩
theorem r_X1_readRule_44 : RW M_X1_readRule 44 (.getfield 29) 3 1 4 47 := ⟨rfl, rfl⟩
theorem r_X1_readRule_47 : RW M_X1_readRule 47 (.aload_n 0) 1 0 0 48 := ⟨rfl, rfl⟩
theorem r_X1_readRule_48 : RW M_X1_readRule 48 (.getfield 51) 3 1 11 51 := ⟨rfl, rfl⟩
theorem r_X1_readRule_51 : RW M_X1_readRule 51 (.aload_n 1) 1 0 0 52 := ⟨rfl, rfl⟩
theorem r_X1_readRule_52 : RW M_X1_readRule 52 (.iconst 0) 1 0 0 53 := ⟨rfl, rfl⟩
theorem r_X1_readRule_53 : RW M_X1_readRule 53 (.aload_n 0) 1 0 0 54 := ⟨rfl, rfl⟩
theorem r_X1_readRule_54 : RW M_X1_readRule 54 (.getfield 47) 3 1 10 57 := ⟨rfl, rfl⟩
theorem r_X1_readRule_57 : RW M_X1_readRule 57 (.iconst 1) 1 0 0 58 := ⟨rfl, rfl⟩
theorem r_X1_readRule_58 : RW M_X1_readRule 58 (.isub) 1 0 0 59 := ⟨rfl, rfl⟩
theorem r_X1_readRule_59 : RW M_X1_readRule 59 (.invokevirtual 104) 3 85 0 62 := ⟨rfl, rfl⟩
theorem r_X1_readRule_62 : RW M_X1_readRule 62 (.invokevirtual 108) 3 93 0 65 := ⟨rfl, rfl⟩
theorem r_X1_readRule_65 : RW M_X1_readRule 65 (.aload_n 0) 1 0 0 66 := ⟨rfl, rfl⟩
theorem r_X1_readRule_66 : RW M_X1_readRule 66 (.getfield 32) 3 1 5 69 := ⟨rfl, rfl⟩
theorem r_X1_readRule_69 : RW M_X1_readRule 69 (.aload_n 0) 1 0 0 70 := ⟨rfl, rfl⟩
theorem r_X1_readRule_70 : RW M_X1_readRule 70 (.getfield 51) 3 1 11 73 := ⟨rfl, rfl⟩
theorem r_X1_readRule_73 : RW M_X1_readRule 73 (.aload_n 1) 1 0 0 74 := ⟨rfl, rfl⟩
theorem r_X1_readRule_74 : RW M_X1_readRule 74 (.iconst 0) 1 0 0 75 := ⟨rfl, rfl⟩
theorem r_X1_readRule_75 : RW M_X1_readRule 75 (.aload_n 0) 1 0 0 76 := ⟨rfl, rfl⟩
theorem r_X1_readRule_76 : RW M_X1_readRule 76 (.getfield 47) 3 1 10 79 := ⟨rfl, rfl⟩
theorem r_X1_readRule_79 : RW M_X1_readRule 79 (.iconst 1) 1 0 0 80 := ⟨rfl, rfl⟩
theorem r_X1_readRule_80 : RW M_X1_readRule 80 (.isub) 1 0 0 81 := ⟨rfl, rfl⟩
theorem r_X1_readRule_81 : RW M_X1_readRule 81 (.invokevirtual 104) 3 85 0 84 := ⟨rfl, rfl⟩
theorem r_X1_readRule_84 : RW M_X1_readRule 84 (.invokevirtual 108) 3 93 0 87 := ⟨rfl, rfl⟩
theorem r_X1_readRule_87 : RW M_X1_readRule 87 (.aload_n 0) 1 0 0 88 := ⟨rfl, rfl⟩
theorem r_X1_readRule_88 : RW M_X1_readRule 88 (.dup) 1 0 0 89 := ⟨rfl, rfl⟩
theorem r_X1_readRule_89 : RW M_X1_readRule 89 (.getfield 51) 3 1 11 92 := ⟨rfl, rfl⟩
theorem r_X1_readRule_92 : RW M_X1_readRule 92 (.iconst 1) 1 0 0 93 := ⟨rfl, rfl⟩
theorem r_X1_readRule_93 : RW M_X1_readRule 93 (.iadd) 1 0 0 94 := ⟨rfl, rfl⟩
theorem r_X1_readRule_94 : RW M_X1_readRule 94 (.putfield 51) 3 1 11 97 := ⟨rfl, rfl⟩
theorem r_X1_readRule_97 : RW M_X1_readRule 97 (.return_) 1 0 0 98 := ⟨rfl, rfl⟩
theorem r_X1_readSaying_0 : RW M_X1_readSaying 0 (.aload_n 1) 1 0 0 1 := ⟨rfl, rfl⟩
theorem r_X1_readSaying_1 : RW M_X1_readSaying 1 (.aload_n 0) 1 0 0 2 := ⟨rfl, rfl⟩
theorem r_X1_readSaying_2 : RW M_X1_readSaying 2 (.getfield 47) 3 1 10 5 := ⟨rfl, rfl⟩
theorem r_X1_readSaying_5 : RW M_X1_readSaying 5 (.bipush 9) 2 0 0 7 := ⟨rfl, rfl⟩
theorem r_X1_readSaying_7 : RW M_X1_readSaying 7 (.if_icmp .ge 7) 3 14 0 10 := ⟨rfl, rfl⟩
theorem r_X1_readSaying_10 : RW M_X1_readSaying 10 (.iconst 1) 1 0 0 11 := ⟨rfl, rfl⟩
theorem r_X1_readSaying_11 : RW M_X1_readSaying 11 (.goto 4) 3 15 0 14 := ⟨rfl, rfl⟩
theorem r_X1_readSaying_14 : RW M_X1_readSaying 14 (.iconst 0) 1 0 0 15 := ⟨rfl, rfl⟩
theorem r_X1_readSaying_15 : RW M_X1_readSaying 15 (.invokevirtual 100) 3 87 0 18 := ⟨rfl, rfl⟩
theorem r_X1_readSaying_18 : RW M_X1_readSaying 18 (.ifCond .eq 66) 3 84 0 21 := ⟨rfl, rfl⟩
theorem r_X1_readSaying_21 : RW M_X1_readSaying 21 (.aload_n 0) 1 0 0 22 := ⟨rfl, rfl⟩
theorem r_X1_readSaying_22 : RW M_X1_readSaying 22 (.getfield 14) 3 1 0 25 := ⟨rfl, rfl⟩
theorem r_X1_readSaying_25 : RW M_X1_readSaying 25 (.aload_n 0) 1 0 0 26 := ⟨rfl, rfl⟩
theorem r_X1_readSaying_26 : RW M_X1_readSaying 26 (.getfield 47) 3 1 10 29 := ⟨rfl, rfl⟩
theorem r_X1_readSaying_29 : RW M_X1_readSaying 29 (.aload_n 1) 1 0 0 30 := ⟨rfl, rfl⟩
theorem r_X1_readSaying_30 : RW M_X1_readSaying 30 (.iconst 0) 1 0 0 31 := ⟨rfl, rfl⟩
theorem r_X1_readSaying_31 : RW M_X1_readSaying 31 (.bipush 99) 2 0 0 33 := ⟨rfl, rfl⟩
theorem r_X1_readSaying_33 : RW M_X1_readSaying 33 (.invokevirtual 104) 3 85 0 36 := ⟨rfl, rfl⟩
theorem r_X1_readSaying_36 : RW M_X1_readSaying 36 (.invokevirtual 108) 3 93 0 39 := ⟨rfl, rfl⟩
theorem r_X1_readSaying_39 : RW M_X1_readSaying 39 (.aload_n 0) 1 0 0 40 := ⟨rfl, rfl⟩
theorem r_X1_readSaying_40 : RW M_X1_readSaying 40 (.getfield 20) 3 1 1 43 := ⟨rfl, rfl⟩
theorem r_X1_readSaying_43 : RW M_X1_readSaying 43 (.aload_n 0) 1 0 0 44 := ⟨rfl, rfl⟩
theorem r_X1_readSaying_44 : RW M_X1_readSaying 44 (.getfield 47) 3 1 10 47 := ⟨rfl, rfl⟩
theorem r_X1_readSaying_47 : RW M_X1_readSaying 47 (.aload_n 1) 1 0 0 48 := ⟨rfl, rfl⟩
theorem r_X1_readSaying_48 : RW M_X1_readSaying 48 (.iconst 0) 1 0 0 49 := ⟨rfl, rfl⟩
theorem r_X1_readSaying_49 : RW M_X1_readSaying 49 (.iconst 1) 1 0 0 50 := ⟨rfl, rfl⟩
theorem r_X1_readSaying_50 : RW M_X1_readSaying 50 (.invokevirtual 104) 3 85 0 53 := ⟨rfl, rfl⟩
theorem r_X1_readSaying_53 : RW M_X1_readSaying 53 (.invokevirtual 108) 3 93 0 56 := ⟨rfl, rfl⟩
theorem r_X1_readSaying_56 : RW M_X1_readSaying 56 (.aload_n 0) 1 0 0 57 := ⟨rfl, rfl⟩
theorem r_X1_readSaying_57 : RW M_X1_readSaying 57 (.getfield 23) 3 1 2 60 := ⟨rfl, rfl⟩
theorem r_X1_readSaying_60 : RW M_X1_readSaying 60 (.aload_n 0) 1 0 0 61 := ⟨rfl, rfl⟩
theorem r_X1_readSaying_61 : RW M_X1_readSaying 61 (.getfield 47) 3 1 10 64 := ⟨rfl, rfl⟩
theorem r_X1_readSaying_64 : RW M_X1_readSaying 64 (.aload_n 1) 1 0 0 65 := ⟨rfl, rfl⟩
theorem r_X1_readSaying_65 : RW M_X1_readSaying 65 (.iconst 0) 1 0 0 66 := ⟨rfl, rfl⟩
theorem r_X1_readSaying_66 : RW M_X1_readSaying 66 (.bipush 60) 2 0 0 68 := ⟨rfl, rfl⟩
theorem r_X1_readSaying_68 : RW M_X1_readSaying 68 (.invokevirtual 104) 3 85 0 71 := ⟨rfl, rfl⟩
theorem r_X1_readSaying_71 : RW M_X1_readSaying 71 (.invokevirtual 108) 3 93 0 74 := ⟨rfl, rfl⟩
theorem r_X1_readSaying_74 : RW M_X1_readSaying 74 (.aload_n 0) 1 0 0 75 := ⟨rfl, rfl⟩
theorem r_X1_readSaying_75 : RW M_X1_readSaying 75 (.dup) 1 0 0 76 := ⟨rfl, rfl⟩
theorem r_X1_readSaying_76 : RW M_X1_readSaying 76 (.getfield 47) 3 1 10 79 := ⟨rfl, rfl⟩
theorem r_X1_readSaying_79 : RW M_X1_readSaying 79 (.iconst 1) 1 0 0 80 := ⟨rfl, rfl⟩
theorem r_X1_readSaying_80 : RW M_X1_readSaying 80 (.iadd) 1 0 0 81 := ⟨rfl, rfl⟩
theorem r_X1_readSaying_81 : RW M_X1_readSaying 81 (.putfield 47) 3 1 10 84 := ⟨rfl, rfl⟩
theorem r_X1_readSaying_84 : RW M_X1_readSaying 84 (.return_) 1 0 0 85 := ⟨rfl, rfl⟩
theorem c_rSay {d : Nat} {I : Nat → Nat → Int32} {J : Nat → Nat → Int64} {g : Nat → Nat} {n s : Nat} {κ : CT} (tp : ∀ j, j < 600 → I 3 j = nI (g j)) (gb : ∀ j, g j < 256) (hn : n ≤ 600) (rg : RG g n s I) (hk : HC 25 κ I) (cb : CB κ) (hw : kcl g n s = 1)  (hd : 5 ≤ d) : RU d 9 [.ref 25, .ref 1] I J (fun I' => RD g n (clsT g n κ s).2 I' ∧ (∃ K, HC 25 K I' ∧ CU K ∧ ∀ s2, (clsT g n κ s).2 = .inl s2 → K = (clsT g n κ s).1) ∧ DF I I') := by
  refine RU.in (d0 := 4) hd mt_9 (Nat.le_of_ble_eq_true rfl) (fun d' hd' => ?_)
  have bns := cb.ns; have bnr := cb.nr; have bnb := cb.nb; have bnc := cb.nc
  show EV none M_X1_readSaying d' 0 [(0, .ref 25), (1, .ref 1)] [] (hp I J) _
  refine EV.l (lv' := [(0, _), (1, _)]) r_X1_readSaying_0 rfl ?_
  refine EV.l (lv' := [(0, _), (1, _)]) r_X1_readSaying_1 rfl ?_
  refine EV.getV r_X1_readSaying_2 la_25 (hk.ns) ?_
  refine EV.o r_X1_readSaying_5 (bpN (9) 9) ?_
  refine EV.n2_ge r_X1_readSaying_7 (fun h7 => ?_) (fun h7 => ?_)
  · -- 7 t
    refine EV.o r_X1_readSaying_14 (icN (0) (v := 0)) ?_
    refine EV.ci r_X1_readSaying_15 (aV1 mt_87 la_1) (c_room0 rg (by omega)) (fun v I2 h2 => ?_)
    obtain ⟨e, rg2, ro2⟩ := h2
    subst e
    refine EV.n0_eq r_X1_readSaying_18 (fun h18 => ?_) (fun h18 => ?_)
    · -- 18 t
      exact EV.ru r_X1_readSaying_84 (by have t : clsT g n κ s = (κ, .inr (3, s)) := clsT_1x hw (by omega); rw [t]; exact ⟨rg2, ⟨κ, hk.ro ro2, cb.u, fun s2 z => inr_ne z⟩, ro2.df⟩)
    · omega
  · -- 7 f
    refine EV.o r_X1_readSaying_10 (icN (1) (v := 1)) ?_
    refine EV.g r_X1_readSaying_11 ?_
    refine EV.ci r_X1_readSaying_15 (aV1 mt_87 la_1) (c_room1 tp gb hn rg (by omega)) (fun v I2 h2 => ?_)
    obtain ⟨e, rg2, ro2⟩ := h2
    subst e
    refine EV.n0_eq r_X1_readSaying_18 (fun h18 => ?_) (fun h18 => ?_)
    · omega
    · -- 18 f
      refine EV.l (lv' := [(0, _), (1, _)]) r_X1_readSaying_21 rfl ?_
      refine EV.gR r_X1_readSaying_22 la_25 ?_
      refine EV.l (lv' := [(0, _), (1, _)]) r_X1_readSaying_25 rfl ?_
      refine EV.getV r_X1_readSaying_26 la_25 (((congrFun (ro2 25 (by decide)) 10).trans (hk.ns))) ?_
      refine EV.l (lv' := [(0, _), (1, _)]) r_X1_readSaying_29 rfl ?_
      refine EV.o r_X1_readSaying_30 (icN (0) (v := 0)) ?_
      refine EV.o r_X1_readSaying_31 (bpN (99) 99) ?_
      refine EV.ci r_X1_readSaying_33 (aV2 mt_85 la_1) (c_numN (tp_fr tp (ro2 3 (by decide))) gb hn (show RD g n (.inl (nxp g n s)) I2 from rg2) (by omega) (by omega) (by omega)) (fun v I3 h3 => ?_)
      obtain ⟨x3, e, xl3, xh3, rd3, xe3, ro3⟩ := h3
      subst e
      refine EV.cu r_X1_readSaying_36 (aV2 mt_93 la_26) (c_set la_26 la_27 (by decide) (by decide) (by omega) (by omega)) (fun I4 e4 => ?_)
      refine EV.l (lv' := [(0, _), (1, _)]) r_X1_readSaying_39 rfl ?_
      refine EV.gR r_X1_readSaying_40 la_25 ?_
      refine EV.l (lv' := [(0, _), (1, _)]) r_X1_readSaying_43 rfl ?_
      refine EV.getV r_X1_readSaying_44 la_25 (((congrFun (((congrFun e4 25).trans (wr_row (by decide))).trans ((ro3 25 (by decide)).trans (ro2 25 (by decide)))) 10).trans (hk.ns))) ?_
      refine EV.l (lv' := [(0, _), (1, _)]) r_X1_readSaying_47 rfl ?_
      refine EV.o r_X1_readSaying_48 (icN (0) (v := 0)) ?_
      refine EV.o r_X1_readSaying_49 (icN (1) (v := 1)) ?_
      refine EV.ci r_X1_readSaying_50 (aV2 mt_85 la_1) (c_numN (tp_fr tp (((congrFun e4 3).trans (wr_row (by decide))).trans ((ro3 3 (by decide)).trans (ro2 3 (by decide))))) gb hn (rd3.fr ((congrFun e4 1).trans (wr_row (by decide)))) (by omega) (by omega) (by omega)) (fun v I5 h5 => ?_)
      obtain ⟨x5, e, xl5, xh5, rd5, xe5, ro5⟩ := h5
      subst e
      refine EV.cu r_X1_readSaying_53 (aV2 mt_93 la_28) (c_set la_28 la_29 (by decide) (by decide) (by omega) (by omega)) (fun I6 e6 => ?_)
      refine EV.l (lv' := [(0, _), (1, _)]) r_X1_readSaying_56 rfl ?_
      refine EV.gR r_X1_readSaying_57 la_25 ?_
      refine EV.l (lv' := [(0, _), (1, _)]) r_X1_readSaying_60 rfl ?_
      refine EV.getV r_X1_readSaying_61 la_25 (((congrFun (((congrFun e6 25).trans (wr_row (by decide))).trans ((ro5 25 (by decide)).trans (((congrFun e4 25).trans (wr_row (by decide))).trans ((ro3 25 (by decide)).trans (ro2 25 (by decide)))))) 10).trans (hk.ns))) ?_
      refine EV.l (lv' := [(0, _), (1, _)]) r_X1_readSaying_64 rfl ?_
      refine EV.o r_X1_readSaying_65 (icN (0) (v := 0)) ?_
      refine EV.o r_X1_readSaying_66 (bpN (60) 60) ?_
      refine EV.ci r_X1_readSaying_68 (aV2 mt_85 la_1) (c_numN (tp_fr tp (((congrFun e6 3).trans (wr_row (by decide))).trans ((ro5 3 (by decide)).trans (((congrFun e4 3).trans (wr_row (by decide))).trans ((ro3 3 (by decide)).trans (ro2 3 (by decide))))))) gb hn (rd5.fr ((congrFun e6 1).trans (wr_row (by decide)))) (by omega) (by omega) (by omega)) (fun v I7 h7 => ?_)
      obtain ⟨x7, e, xl7, xh7, rd7, xe7, ro7⟩ := h7
      subst e
      refine EV.cu r_X1_readSaying_71 (aV2 mt_93 la_30) (c_set la_30 la_31 (by decide) (by decide) (by omega) (by omega)) (fun I8 e8 => ?_)
      refine EV.l (lv' := [(0, _), (1, _)]) r_X1_readSaying_74 rfl ?_
      refine EV.o r_X1_readSaying_75 rfl ?_
      refine EV.getV r_X1_readSaying_76 la_25 (((congrFun (((congrFun e8 25).trans (wr_row (by decide))).trans ((ro7 25 (by decide)).trans (((congrFun e6 25).trans (wr_row (by decide))).trans ((ro5 25 (by decide)).trans (((congrFun e4 25).trans (wr_row (by decide))).trans ((ro3 25 (by decide)).trans (ro2 25 (by decide)))))))) 10).trans (hk.ns))) ?_
      refine EV.o r_X1_readSaying_79 (icN (1) (v := 1)) ?_
      refine EV.o r_X1_readSaying_80 iaddN ?_
      refine EV.pIn r_X1_readSaying_81 la_25 (fun I9 e9 => ?_)
      exact EV.ru r_X1_readSaying_84 (by have t := clsT_1 (g := g) (n := n) (s := s) (κ := κ) hw (by omega); rw [t]; exact ⟨((rd7.fr ((congrFun e8 1).trans (wr_row (by decide)))).fr ((congrFun e9 1).trans (wr_row (by decide)))), ⟨addSay κ x3 x5 x7, hk.say ((congrFun (congrFun e9 25) 10).trans wr_same) (fun j hj => (congrFun (congrFun e9 25) j).trans ((wr_ne (Or.inr hj)).trans (congrFun (((congrFun e8 25).trans (wr_row (by decide))).trans ((ro7 25 (by decide)).trans (((congrFun e6 25).trans (wr_row (by decide))).trans ((ro5 25 (by decide)).trans (((congrFun e4 25).trans (wr_row (by decide))).trans ((ro3 25 (by decide)).trans (ro2 25 (by decide)))))))) j))) ((((congrFun e9 27).trans (wr_row (by decide))).trans (((congrFun e8 27).trans (wr_row (by decide))).trans ((ro7 27 (by decide)).trans (((congrFun e6 27).trans (wr_row (by decide))).trans (ro5 27 (by decide)))))).trans ((congrFun e4 27).trans (wr_cg ((ro3 27 (by decide)).trans (ro2 27 (by decide)))))) ((((congrFun e9 29).trans (wr_row (by decide))).trans (((congrFun e8 29).trans (wr_row (by decide))).trans (ro7 29 (by decide)))).trans ((congrFun e6 29).trans (wr_cg ((ro5 29 (by decide)).trans (((congrFun e4 29).trans (wr_row (by decide))).trans ((ro3 29 (by decide)).trans (ro2 29 (by decide)))))))) (((congrFun e9 31).trans (wr_row (by decide))).trans ((congrFun e8 31).trans (wr_cg ((ro7 31 (by decide)).trans (((congrFun e6 31).trans (wr_row (by decide))).trans ((ro5 31 (by decide)).trans (((congrFun e4 31).trans (wr_row (by decide))).trans ((ro3 31 (by decide)).trans (ro2 31 (by decide)))))))))) (fun o p1 p2 => (((congrFun e9 o).trans (wr_row (by omega))).trans (((congrFun e8 o).trans (wr_row (by omega))).trans ((ro7 o (by omega)).trans (((congrFun e6 o).trans (wr_row (by omega))).trans ((ro5 o (by omega)).trans (((congrFun e4 o).trans (wr_row (by omega))).trans ((ro3 o (by omega)).trans (ro2 o (by omega)))))))))), cb.u.say xh3 xh5 xh7, fun s2 z => congrArg (fun q : Nat × Nat × Nat => addSay κ q.1 q.2.1 q.2.2) (tk3_e xe3 xe5 xe7 z)⟩, fun o a b => (((congrFun e9 o).trans (wr_row (by omega))).trans (((congrFun e8 o).trans (wr_row (by omega))).trans ((ro7 o (by omega)).trans (((congrFun e6 o).trans (wr_row (by omega))).trans ((ro5 o (by omega)).trans (((congrFun e4 o).trans (wr_row (by omega))).trans ((ro3 o (by omega)).trans (ro2 o (by omega)))))))))⟩)
theorem c_rRul {d : Nat} {I : Nat → Nat → Int32} {J : Nat → Nat → Int64} {g : Nat → Nat} {n s : Nat} {κ : CT} (tp : ∀ j, j < 600 → I 3 j = nI (g j)) (gb : ∀ j, g j < 256) (hn : n ≤ 600) (rg : RG g n s I) (hk : HC 25 κ I) (cb : CB κ) (hw : kcl g n s = 2)  (hd : 5 ≤ d) : RU d 10 [.ref 25, .ref 1] I J (fun I' => RD g n (clsT g n κ s).2 I' ∧ (∃ K, HC 25 K I' ∧ CU K ∧ ∀ s2, (clsT g n κ s).2 = .inl s2 → K = (clsT g n κ s).1) ∧ DF I I') := by
  refine RU.in (d0 := 4) hd mt_10 (Nat.le_of_ble_eq_true rfl) (fun d' hd' => ?_)
  have bns := cb.ns; have bnr := cb.nr; have bnb := cb.nb; have bnc := cb.nc
  show EV none M_X1_readRule d' 0 [(0, .ref 25), (1, .ref 1)] [] (hp I J) _
  refine EV.l (lv' := [(0, _), (1, _)]) r_X1_readRule_0 rfl ?_
  refine EV.l (lv' := [(0, _), (1, _)]) r_X1_readRule_1 rfl ?_
  refine EV.getV r_X1_readRule_2 la_25 (hk.nr) ?_
  refine EV.o r_X1_readRule_5 (bpN (12) 12) ?_
  refine EV.n2_ge r_X1_readRule_7 (fun h7 => ?_) (fun h7 => ?_)
  · -- 7 t
    refine EV.o r_X1_readRule_14 (icN (0) (v := 0)) ?_
    refine EV.ci r_X1_readRule_15 (aV1 mt_87 la_1) (c_room0 rg (by omega)) (fun v I2 h2 => ?_)
    obtain ⟨e, rg2, ro2⟩ := h2
    subst e
    refine EV.n0_eq r_X1_readRule_18 (fun h18 => ?_) (fun h18 => ?_)
    · -- 18 t
      exact EV.ru r_X1_readRule_97 (by have t : clsT g n κ s = (κ, .inr (3, s)) := clsT_2x hw (by omega); rw [t]; exact ⟨rg2, ⟨κ, hk.ro ro2, cb.u, fun s2 z => inr_ne z⟩, ro2.df⟩)
    · omega
  · -- 7 f
    refine EV.o r_X1_readRule_10 (icN (1) (v := 1)) ?_
    refine EV.g r_X1_readRule_11 ?_
    refine EV.ci r_X1_readRule_15 (aV1 mt_87 la_1) (c_room1 tp gb hn rg (by omega)) (fun v I2 h2 => ?_)
    obtain ⟨e, rg2, ro2⟩ := h2
    subst e
    refine EV.n0_eq r_X1_readRule_18 (fun h18 => ?_) (fun h18 => ?_)
    · omega
    · -- 18 f
      refine EV.l (lv' := [(0, _), (1, _)]) r_X1_readRule_21 rfl ?_
      refine EV.gR r_X1_readRule_22 la_25 ?_
      refine EV.l (lv' := [(0, _), (1, _)]) r_X1_readRule_25 rfl ?_
      refine EV.getV r_X1_readRule_26 la_25 (((congrFun (ro2 25 (by decide)) 11).trans (hk.nr))) ?_
      refine EV.l (lv' := [(0, _), (1, _)]) r_X1_readRule_29 rfl ?_
      refine EV.o r_X1_readRule_30 (icN (0) (v := 0)) ?_
      refine EV.l (lv' := [(0, _), (1, _)]) r_X1_readRule_31 rfl ?_
      refine EV.getV r_X1_readRule_32 la_25 (((congrFun (ro2 25 (by decide)) 10).trans (hk.ns))) ?_
      refine EV.o r_X1_readRule_35 (icN (1) (v := 1)) ?_
      refine EV.o r_X1_readRule_36 (isubNZ) ?_
      refine EV.ci r_X1_readRule_37 (aV2 mt_85 la_1) (c_numZ (tp_fr tp (ro2 3 (by decide))) gb hn (show RD g n (.inl (nxp g n s)) I2 from rg2) (by omega) (by omega) (by omega)) (fun v I3 h3 => ?_)
      obtain ⟨x3, e, rd3, xe3, ro3⟩ := h3
      subst e
      refine EV.cu r_X1_readRule_40 (aV2 mt_93 la_32) (c_set la_32 la_33 (by decide) (by decide) (by omega) (by omega)) (fun I4 e4 => ?_)
      refine EV.l (lv' := [(0, _), (1, _)]) r_X1_readRule_43 rfl ?_
      refine EV.gR r_X1_readRule_44 la_25 ?_
      refine EV.l (lv' := [(0, _), (1, _)]) r_X1_readRule_47 rfl ?_
      refine EV.getV r_X1_readRule_48 la_25 (((congrFun (((congrFun e4 25).trans (wr_row (by decide))).trans ((ro3 25 (by decide)).trans (ro2 25 (by decide)))) 11).trans (hk.nr))) ?_
      refine EV.l (lv' := [(0, _), (1, _)]) r_X1_readRule_51 rfl ?_
      refine EV.o r_X1_readRule_52 (icN (0) (v := 0)) ?_
      refine EV.l (lv' := [(0, _), (1, _)]) r_X1_readRule_53 rfl ?_
      refine EV.getV r_X1_readRule_54 la_25 (((congrFun (((congrFun e4 25).trans (wr_row (by decide))).trans ((ro3 25 (by decide)).trans (ro2 25 (by decide)))) 10).trans (hk.ns))) ?_
      refine EV.o r_X1_readRule_57 (icN (1) (v := 1)) ?_
      refine EV.o r_X1_readRule_58 (isubNZ) ?_
      refine EV.ci r_X1_readRule_59 (aV2 mt_85 la_1) (c_numZ (tp_fr tp (((congrFun e4 3).trans (wr_row (by decide))).trans ((ro3 3 (by decide)).trans (ro2 3 (by decide))))) gb hn (rd3.fr ((congrFun e4 1).trans (wr_row (by decide)))) (by omega) (by omega) (by omega)) (fun v I5 h5 => ?_)
      obtain ⟨x5, e, rd5, xe5, ro5⟩ := h5
      subst e
      refine EV.cu r_X1_readRule_62 (aV2 mt_93 la_34) (c_set la_34 la_35 (by decide) (by decide) (by omega) (by omega)) (fun I6 e6 => ?_)
      refine EV.l (lv' := [(0, _), (1, _)]) r_X1_readRule_65 rfl ?_
      refine EV.gR r_X1_readRule_66 la_25 ?_
      refine EV.l (lv' := [(0, _), (1, _)]) r_X1_readRule_69 rfl ?_
      refine EV.getV r_X1_readRule_70 la_25 (((congrFun (((congrFun e6 25).trans (wr_row (by decide))).trans ((ro5 25 (by decide)).trans (((congrFun e4 25).trans (wr_row (by decide))).trans ((ro3 25 (by decide)).trans (ro2 25 (by decide)))))) 11).trans (hk.nr))) ?_
      refine EV.l (lv' := [(0, _), (1, _)]) r_X1_readRule_73 rfl ?_
      refine EV.o r_X1_readRule_74 (icN (0) (v := 0)) ?_
      refine EV.l (lv' := [(0, _), (1, _)]) r_X1_readRule_75 rfl ?_
      refine EV.getV r_X1_readRule_76 la_25 (((congrFun (((congrFun e6 25).trans (wr_row (by decide))).trans ((ro5 25 (by decide)).trans (((congrFun e4 25).trans (wr_row (by decide))).trans ((ro3 25 (by decide)).trans (ro2 25 (by decide)))))) 10).trans (hk.ns))) ?_
      refine EV.o r_X1_readRule_79 (icN (1) (v := 1)) ?_
      refine EV.o r_X1_readRule_80 (isubNZ) ?_
      refine EV.ci r_X1_readRule_81 (aV2 mt_85 la_1) (c_numZ (tp_fr tp (((congrFun e6 3).trans (wr_row (by decide))).trans ((ro5 3 (by decide)).trans (((congrFun e4 3).trans (wr_row (by decide))).trans ((ro3 3 (by decide)).trans (ro2 3 (by decide))))))) gb hn (rd5.fr ((congrFun e6 1).trans (wr_row (by decide)))) (by omega) (by omega) (by omega)) (fun v I7 h7 => ?_)
      obtain ⟨x7, e, rd7, xe7, ro7⟩ := h7
      subst e
      refine EV.cu r_X1_readRule_84 (aV2 mt_93 la_36) (c_set la_36 la_37 (by decide) (by decide) (by omega) (by omega)) (fun I8 e8 => ?_)
      refine EV.l (lv' := [(0, _), (1, _)]) r_X1_readRule_87 rfl ?_
      refine EV.o r_X1_readRule_88 rfl ?_
      refine EV.getV r_X1_readRule_89 la_25 (((congrFun (((congrFun e8 25).trans (wr_row (by decide))).trans ((ro7 25 (by decide)).trans (((congrFun e6 25).trans (wr_row (by decide))).trans ((ro5 25 (by decide)).trans (((congrFun e4 25).trans (wr_row (by decide))).trans ((ro3 25 (by decide)).trans (ro2 25 (by decide)))))))) 11).trans (hk.nr))) ?_
      refine EV.o r_X1_readRule_92 (icN (1) (v := 1)) ?_
      refine EV.o r_X1_readRule_93 iaddN ?_
      refine EV.pIn r_X1_readRule_94 la_25 (fun I9 e9 => ?_)
      exact EV.ru r_X1_readRule_97 (by have t := clsT_2 (g := g) (n := n) (s := s) (κ := κ) hw (by omega); rw [t]; exact ⟨((rd7.fr ((congrFun e8 1).trans (wr_row (by decide)))).fr ((congrFun e9 1).trans (wr_row (by decide)))), ⟨addRul κ x3 x5 x7, hk.rul ((congrFun (congrFun e9 25) 11).trans wr_same) (fun j hj => (congrFun (congrFun e9 25) j).trans ((wr_ne (Or.inr hj)).trans (congrFun (((congrFun e8 25).trans (wr_row (by decide))).trans ((ro7 25 (by decide)).trans (((congrFun e6 25).trans (wr_row (by decide))).trans ((ro5 25 (by decide)).trans (((congrFun e4 25).trans (wr_row (by decide))).trans ((ro3 25 (by decide)).trans (ro2 25 (by decide)))))))) j))) ((((congrFun e9 33).trans (wr_row (by decide))).trans (((congrFun e8 33).trans (wr_row (by decide))).trans ((ro7 33 (by decide)).trans (((congrFun e6 33).trans (wr_row (by decide))).trans (ro5 33 (by decide)))))).trans ((congrFun e4 33).trans (wr_cg ((ro3 33 (by decide)).trans (ro2 33 (by decide)))))) ((((congrFun e9 35).trans (wr_row (by decide))).trans (((congrFun e8 35).trans (wr_row (by decide))).trans (ro7 35 (by decide)))).trans ((congrFun e6 35).trans (wr_cg ((ro5 35 (by decide)).trans (((congrFun e4 35).trans (wr_row (by decide))).trans ((ro3 35 (by decide)).trans (ro2 35 (by decide)))))))) (((congrFun e9 37).trans (wr_row (by decide))).trans ((congrFun e8 37).trans (wr_cg ((ro7 37 (by decide)).trans (((congrFun e6 37).trans (wr_row (by decide))).trans ((ro5 37 (by decide)).trans (((congrFun e4 37).trans (wr_row (by decide))).trans ((ro3 37 (by decide)).trans (ro2 37 (by decide)))))))))) (fun o p1 p2 p3 p4 p5 => (((congrFun e9 o).trans (wr_row (by omega))).trans (((congrFun e8 o).trans (wr_row (by omega))).trans ((ro7 o (by omega)).trans (((congrFun e6 o).trans (wr_row (by omega))).trans ((ro5 o (by omega)).trans (((congrFun e4 o).trans (wr_row (by omega))).trans ((ro3 o (by omega)).trans (ro2 o (by omega)))))))))), cb.u.rul, fun s2 z => congrArg (fun q : Nat × Nat × Nat => addRul κ q.1 q.2.1 q.2.2) (tk3_e xe3 xe5 xe7 z)⟩, fun o a b => (((congrFun e9 o).trans (wr_row (by omega))).trans (((congrFun e8 o).trans (wr_row (by omega))).trans ((ro7 o (by omega)).trans (((congrFun e6 o).trans (wr_row (by omega))).trans ((ro5 o (by omega)).trans (((congrFun e4 o).trans (wr_row (by omega))).trans ((ro3 o (by omega)).trans (ro2 o (by omega)))))))))⟩)
theorem c_rBir {d : Nat} {I : Nat → Nat → Int32} {J : Nat → Nat → Int64} {g : Nat → Nat} {n s : Nat} {κ : CT} (tp : ∀ j, j < 600 → I 3 j = nI (g j)) (gb : ∀ j, g j < 256) (hn : n ≤ 600) (rg : RG g n s I) (hk : HC 25 κ I) (cb : CB κ) (hw : kcl g n s = 3)  (hd : 5 ≤ d) : RU d 11 [.ref 25, .ref 1] I J (fun I' => RD g n (clsT g n κ s).2 I' ∧ (∃ K, HC 25 K I' ∧ CU K ∧ ∀ s2, (clsT g n κ s).2 = .inl s2 → K = (clsT g n κ s).1) ∧ DF I I') := by
  refine RU.in (d0 := 4) hd mt_11 (Nat.le_of_ble_eq_true rfl) (fun d' hd' => ?_)
  have bns := cb.ns; have bnr := cb.nr; have bnb := cb.nb; have bnc := cb.nc
  show EV none M_X1_readBird d' 0 [(0, .ref 25), (1, .ref 1)] [] (hp I J) _
  refine EV.l (lv' := [(0, _), (1, _)]) r_X1_readBird_0 rfl ?_
  refine EV.l (lv' := [(0, _), (1, _)]) r_X1_readBird_1 rfl ?_
  refine EV.getV r_X1_readBird_2 la_25 (hk.nb) ?_
  refine EV.o r_X1_readBird_5 (icN (4) (v := 4)) ?_
  refine EV.n2_ge r_X1_readBird_6 (fun h6 => ?_) (fun h6 => ?_)
  · -- 6 t
    refine EV.o r_X1_readBird_13 (icN (0) (v := 0)) ?_
    refine EV.ci r_X1_readBird_14 (aV1 mt_87 la_1) (c_room0 rg (by omega)) (fun v I2 h2 => ?_)
    obtain ⟨e, rg2, ro2⟩ := h2
    subst e
    refine EV.n0_eq r_X1_readBird_17 (fun h17 => ?_) (fun h17 => ?_)
    · -- 17 t
      exact EV.ru r_X1_readBird_66 (by have t : clsT g n κ s = (κ, .inr (3, s)) := clsT_3x hw (by omega); rw [t]; exact ⟨rg2, ⟨κ, hk.ro ro2, cb.u, fun s2 z => inr_ne z⟩, ro2.df⟩)
    · omega
  · -- 6 f
    refine EV.o r_X1_readBird_9 (icN (1) (v := 1)) ?_
    refine EV.g r_X1_readBird_10 ?_
    refine EV.ci r_X1_readBird_14 (aV1 mt_87 la_1) (c_room1 tp gb hn rg (by omega)) (fun v I2 h2 => ?_)
    obtain ⟨e, rg2, ro2⟩ := h2
    subst e
    refine EV.n0_eq r_X1_readBird_17 (fun h17 => ?_) (fun h17 => ?_)
    · omega
    · -- 17 f
      refine EV.l (lv' := [(0, _), (1, _)]) r_X1_readBird_20 rfl ?_
      refine EV.gR r_X1_readBird_21 la_25 ?_
      refine EV.l (lv' := [(0, _), (1, _)]) r_X1_readBird_24 rfl ?_
      refine EV.getV r_X1_readBird_25 la_25 (((congrFun (ro2 25 (by decide)) 12).trans (hk.nb))) ?_
      refine EV.l (lv' := [(0, _), (1, _)]) r_X1_readBird_28 rfl ?_
      refine EV.o r_X1_readBird_29 (icN (0) (v := 0)) ?_
      refine EV.o r_X1_readBird_30 (bpN (99) 99) ?_
      refine EV.ci r_X1_readBird_32 (aV2 mt_85 la_1) (c_numN (tp_fr tp (ro2 3 (by decide))) gb hn (show RD g n (.inl (nxp g n s)) I2 from rg2) (by omega) (by omega) (by omega)) (fun v I3 h3 => ?_)
      obtain ⟨x3, e, xl3, xh3, rd3, xe3, ro3⟩ := h3
      subst e
      refine EV.cu r_X1_readBird_35 (aV2 mt_93 la_38) (c_set la_38 la_39 (by decide) (by decide) (by omega) (by omega)) (fun I4 e4 => ?_)
      refine EV.l (lv' := [(0, _), (1, _)]) r_X1_readBird_38 rfl ?_
      refine EV.gR r_X1_readBird_39 la_25 ?_
      refine EV.l (lv' := [(0, _), (1, _)]) r_X1_readBird_42 rfl ?_
      refine EV.getV r_X1_readBird_43 la_25 (((congrFun (((congrFun e4 25).trans (wr_row (by decide))).trans ((ro3 25 (by decide)).trans (ro2 25 (by decide)))) 12).trans (hk.nb))) ?_
      refine EV.l (lv' := [(0, _), (1, _)]) r_X1_readBird_46 rfl ?_
      refine EV.o r_X1_readBird_47 (icN (1) (v := 1)) ?_
      refine EV.o r_X1_readBird_48 (bpN (20) 20) ?_
      refine EV.ci r_X1_readBird_50 (aV2 mt_85 la_1) (c_numN (tp_fr tp (((congrFun e4 3).trans (wr_row (by decide))).trans ((ro3 3 (by decide)).trans (ro2 3 (by decide))))) gb hn (rd3.fr ((congrFun e4 1).trans (wr_row (by decide)))) (by omega) (by omega) (by omega)) (fun v I5 h5 => ?_)
      obtain ⟨x5, e, xl5, xh5, rd5, xe5, ro5⟩ := h5
      subst e
      refine EV.cu r_X1_readBird_53 (aV2 mt_93 la_40) (c_set la_40 la_41 (by decide) (by decide) (by omega) (by omega)) (fun I6 e6 => ?_)
      refine EV.l (lv' := [(0, _), (1, _)]) r_X1_readBird_56 rfl ?_
      refine EV.o r_X1_readBird_57 rfl ?_
      refine EV.getV r_X1_readBird_58 la_25 (((congrFun (((congrFun e6 25).trans (wr_row (by decide))).trans ((ro5 25 (by decide)).trans (((congrFun e4 25).trans (wr_row (by decide))).trans ((ro3 25 (by decide)).trans (ro2 25 (by decide)))))) 12).trans (hk.nb))) ?_
      refine EV.o r_X1_readBird_61 (icN (1) (v := 1)) ?_
      refine EV.o r_X1_readBird_62 iaddN ?_
      refine EV.pIn r_X1_readBird_63 la_25 (fun I7 e7 => ?_)
      exact EV.ru r_X1_readBird_66 (by have t := clsT_3 (g := g) (n := n) (s := s) (κ := κ) hw (by omega); rw [t]; exact ⟨((rd5.fr ((congrFun e6 1).trans (wr_row (by decide)))).fr ((congrFun e7 1).trans (wr_row (by decide)))), ⟨addBir κ x3 x5, hk.bir ((congrFun (congrFun e7 25) 12).trans wr_same) (fun j hj => (congrFun (congrFun e7 25) j).trans ((wr_ne (Or.inr hj)).trans (congrFun (((congrFun e6 25).trans (wr_row (by decide))).trans ((ro5 25 (by decide)).trans (((congrFun e4 25).trans (wr_row (by decide))).trans ((ro3 25 (by decide)).trans (ro2 25 (by decide)))))) j))) ((((congrFun e7 39).trans (wr_row (by decide))).trans (((congrFun e6 39).trans (wr_row (by decide))).trans (ro5 39 (by decide)))).trans ((congrFun e4 39).trans (wr_cg ((ro3 39 (by decide)).trans (ro2 39 (by decide)))))) (((congrFun e7 41).trans (wr_row (by decide))).trans ((congrFun e6 41).trans (wr_cg ((ro5 41 (by decide)).trans (((congrFun e4 41).trans (wr_row (by decide))).trans ((ro3 41 (by decide)).trans (ro2 41 (by decide)))))))) (fun o p1 p2 p3 p4 => (((congrFun e7 o).trans (wr_row (by omega))).trans (((congrFun e6 o).trans (wr_row (by omega))).trans ((ro5 o (by omega)).trans (((congrFun e4 o).trans (wr_row (by omega))).trans ((ro3 o (by omega)).trans (ro2 o (by omega)))))))), cb.u.bir xh3 xh5, fun s2 z => congrArg (fun q : Nat × Nat => addBir κ q.1 q.2) (tk2_e xe3 xe5 z)⟩, fun o a b => (((congrFun e7 o).trans (wr_row (by omega))).trans (((congrFun e6 o).trans (wr_row (by omega))).trans ((ro5 o (by omega)).trans (((congrFun e4 o).trans (wr_row (by omega))).trans ((ro3 o (by omega)).trans (ro2 o (by omega)))))))⟩)
theorem c_rCou {d : Nat} {I : Nat → Nat → Int32} {J : Nat → Nat → Int64} {g : Nat → Nat} {n s : Nat} {κ : CT} (tp : ∀ j, j < 600 → I 3 j = nI (g j)) (gb : ∀ j, g j < 256) (hn : n ≤ 600) (rg : RG g n s I) (hk : HC 25 κ I) (cb : CB κ) (hw : kcl g n s = 4)  (hd : 5 ≤ d) : RU d 12 [.ref 25, .ref 1] I J (fun I' => RD g n (clsT g n κ s).2 I' ∧ (∃ K, HC 25 K I' ∧ CU K ∧ ∀ s2, (clsT g n κ s).2 = .inl s2 → K = (clsT g n κ s).1) ∧ DF I I') := by
  refine RU.in (d0 := 4) hd mt_12 (Nat.le_of_ble_eq_true rfl) (fun d' hd' => ?_)
  have bns := cb.ns; have bnr := cb.nr; have bnb := cb.nb; have bnc := cb.nc
  show EV none M_X1_readCounsel d' 0 [(0, .ref 25), (1, .ref 1)] [] (hp I J) _
  refine EV.l (lv' := [(0, _), (1, _)]) r_X1_readCounsel_0 rfl ?_
  refine EV.l (lv' := [(0, _), (1, _)]) r_X1_readCounsel_1 rfl ?_
  refine EV.getV r_X1_readCounsel_2 la_25 (hk.nc) ?_
  refine EV.o r_X1_readCounsel_5 (icN (4) (v := 4)) ?_
  refine EV.n2_ge r_X1_readCounsel_6 (fun h6 => ?_) (fun h6 => ?_)
  · -- 6 t
    refine EV.o r_X1_readCounsel_13 (icN (0) (v := 0)) ?_
    refine EV.ci r_X1_readCounsel_14 (aV1 mt_87 la_1) (c_room0 rg (by omega)) (fun v I2 h2 => ?_)
    obtain ⟨e, rg2, ro2⟩ := h2
    subst e
    refine EV.n0_eq r_X1_readCounsel_17 (fun h17 => ?_) (fun h17 => ?_)
    · -- 17 t
      exact EV.ru r_X1_readCounsel_66 (by have t : clsT g n κ s = (κ, .inr (3, s)) := clsT_4x hw (by omega); rw [t]; exact ⟨rg2, ⟨κ, hk.ro ro2, cb.u, fun s2 z => inr_ne z⟩, ro2.df⟩)
    · omega
  · -- 6 f
    refine EV.o r_X1_readCounsel_9 (icN (1) (v := 1)) ?_
    refine EV.g r_X1_readCounsel_10 ?_
    refine EV.ci r_X1_readCounsel_14 (aV1 mt_87 la_1) (c_room1 tp gb hn rg (by omega)) (fun v I2 h2 => ?_)
    obtain ⟨e, rg2, ro2⟩ := h2
    subst e
    refine EV.n0_eq r_X1_readCounsel_17 (fun h17 => ?_) (fun h17 => ?_)
    · omega
    · -- 17 f
      refine EV.l (lv' := [(0, _), (1, _)]) r_X1_readCounsel_20 rfl ?_
      refine EV.gR r_X1_readCounsel_21 la_25 ?_
      refine EV.l (lv' := [(0, _), (1, _)]) r_X1_readCounsel_24 rfl ?_
      refine EV.getV r_X1_readCounsel_25 la_25 (((congrFun (ro2 25 (by decide)) 13).trans (hk.nc))) ?_
      refine EV.l (lv' := [(0, _), (1, _)]) r_X1_readCounsel_28 rfl ?_
      refine EV.o r_X1_readCounsel_29 (icN (0) (v := 0)) ?_
      refine EV.o r_X1_readCounsel_30 (bpN (40) 40) ?_
      refine EV.ci r_X1_readCounsel_32 (aV2 mt_85 la_1) (c_numN (tp_fr tp (ro2 3 (by decide))) gb hn (show RD g n (.inl (nxp g n s)) I2 from rg2) (by omega) (by omega) (by omega)) (fun v I3 h3 => ?_)
      obtain ⟨x3, e, xl3, xh3, rd3, xe3, ro3⟩ := h3
      subst e
      refine EV.cu r_X1_readCounsel_35 (aV2 mt_93 la_42) (c_set la_42 la_43 (by decide) (by decide) (by omega) (by omega)) (fun I4 e4 => ?_)
      refine EV.l (lv' := [(0, _), (1, _)]) r_X1_readCounsel_38 rfl ?_
      refine EV.gR r_X1_readCounsel_39 la_25 ?_
      refine EV.l (lv' := [(0, _), (1, _)]) r_X1_readCounsel_42 rfl ?_
      refine EV.getV r_X1_readCounsel_43 la_25 (((congrFun (((congrFun e4 25).trans (wr_row (by decide))).trans ((ro3 25 (by decide)).trans (ro2 25 (by decide)))) 13).trans (hk.nc))) ?_
      refine EV.l (lv' := [(0, _), (1, _)]) r_X1_readCounsel_46 rfl ?_
      refine EV.o r_X1_readCounsel_47 (icN (0) (v := 0)) ?_
      refine EV.o r_X1_readCounsel_48 (bpN (9) 9) ?_
      refine EV.ci r_X1_readCounsel_50 (aV2 mt_85 la_1) (c_numN (tp_fr tp (((congrFun e4 3).trans (wr_row (by decide))).trans ((ro3 3 (by decide)).trans (ro2 3 (by decide))))) gb hn (rd3.fr ((congrFun e4 1).trans (wr_row (by decide)))) (by omega) (by omega) (by omega)) (fun v I5 h5 => ?_)
      obtain ⟨x5, e, xl5, xh5, rd5, xe5, ro5⟩ := h5
      subst e
      refine EV.cu r_X1_readCounsel_53 (aV2 mt_93 la_44) (c_set la_44 la_45 (by decide) (by decide) (by omega) (by omega)) (fun I6 e6 => ?_)
      refine EV.l (lv' := [(0, _), (1, _)]) r_X1_readCounsel_56 rfl ?_
      refine EV.o r_X1_readCounsel_57 rfl ?_
      refine EV.getV r_X1_readCounsel_58 la_25 (((congrFun (((congrFun e6 25).trans (wr_row (by decide))).trans ((ro5 25 (by decide)).trans (((congrFun e4 25).trans (wr_row (by decide))).trans ((ro3 25 (by decide)).trans (ro2 25 (by decide)))))) 13).trans (hk.nc))) ?_
      refine EV.o r_X1_readCounsel_61 (icN (1) (v := 1)) ?_
      refine EV.o r_X1_readCounsel_62 iaddN ?_
      refine EV.pIn r_X1_readCounsel_63 la_25 (fun I7 e7 => ?_)
      exact EV.ru r_X1_readCounsel_66 (by have t := clsT_4 (g := g) (n := n) (s := s) (κ := κ) hw (by omega); rw [t]; exact ⟨((rd5.fr ((congrFun e6 1).trans (wr_row (by decide)))).fr ((congrFun e7 1).trans (wr_row (by decide)))), ⟨addCou κ x3 x5, hk.cou ((congrFun (congrFun e7 25) 13).trans wr_same) (fun j hj => (congrFun (congrFun e7 25) j).trans ((wr_ne (Or.inr hj)).trans (congrFun (((congrFun e6 25).trans (wr_row (by decide))).trans ((ro5 25 (by decide)).trans (((congrFun e4 25).trans (wr_row (by decide))).trans ((ro3 25 (by decide)).trans (ro2 25 (by decide)))))) j))) ((((congrFun e7 43).trans (wr_row (by decide))).trans (((congrFun e6 43).trans (wr_row (by decide))).trans (ro5 43 (by decide)))).trans ((congrFun e4 43).trans (wr_cg ((ro3 43 (by decide)).trans (ro2 43 (by decide)))))) (((congrFun e7 45).trans (wr_row (by decide))).trans ((congrFun e6 45).trans (wr_cg ((ro5 45 (by decide)).trans (((congrFun e4 45).trans (wr_row (by decide))).trans ((ro3 45 (by decide)).trans (ro2 45 (by decide)))))))) (fun o p1 p2 p3 p4 => (((congrFun e7 o).trans (wr_row (by omega))).trans (((congrFun e6 o).trans (wr_row (by omega))).trans ((ro5 o (by omega)).trans (((congrFun e4 o).trans (wr_row (by omega))).trans ((ro3 o (by omega)).trans (ro2 o (by omega)))))))), cb.u.cou xh3 xh5, fun s2 z => congrArg (fun q : Nat × Nat => addCou κ q.1 q.2) (tk2_e xe3 xe5 z)⟩, fun o a b => (((congrFun e7 o).trans (wr_row (by omega))).trans (((congrFun e6 o).trans (wr_row (by omega))).trans ((ro5 o (by omega)).trans (((congrFun e4 o).trans (wr_row (by omega))).trans ((ro3 o (by omega)).trans (ro2 o (by omega)))))))⟩)
theorem c_rCls {d : Nat} {I : Nat → Nat → Int32} {J : Nat → Nat → Int64} {g : Nat → Nat} {n s : Nat} {κ : CT} (tp : ∀ j, j < 600 → I 3 j = nI (g j)) (gb : ∀ j, g j < 256) (hn : n ≤ 600) (rg : RG g n s I) (hk : HC 25 κ I) (cb : CB κ)  (hd : 6 ≤ d) : RU d 8 [.ref 25, .ref 1] I J (fun I' => RD g n (clsT g n κ s).2 I' ∧ (∃ K, HC 25 K I' ∧ CU K ∧ ∀ s2, (clsT g n κ s).2 = .inl s2 → K = (clsT g n κ s).1) ∧ DF I I') := by
  refine RU.in (d0 := 5) hd mt_8 (Nat.le_of_ble_eq_true rfl) (fun d' hd' => ?_)
  show EV none M_X1_readClause d' 0 [(0, .ref 25), (1, .ref 1)] [] (hp I J) _
  refine EV.l (lv' := [(0, _), (1, _)]) r_X1_readClause_0 rfl ?_
  refine EV.lcT r_X1_readClause_1 rfl ?_
  refine EV.cv r_X1_readClause_3 (aV1 mt_84 la_1) (c_wordG tp gb hn rg tx_1 (by decide) lSay (by omega)) ?_
  refine EV.b0_eq r_X1_readClause_6 (fun h6 => ?_) (fun h6 => ?_)
  · -- 6 t
    refine EV.l (lv' := [(0, _), (1, _)]) r_X1_readClause_17 rfl ?_
    refine EV.lcT r_X1_readClause_18 rfl ?_
    refine EV.cv r_X1_readClause_20 (aV1 mt_84 la_1) (c_wordG tp gb hn rg tx_2 (by decide) lSo (by omega)) ?_
    refine EV.b0_eq r_X1_readClause_23 (fun h23 => ?_) (fun h23 => ?_)
    · -- 23 t
      refine EV.l (lv' := [(0, _), (1, _)]) r_X1_readClause_34 rfl ?_
      refine EV.lcT r_X1_readClause_35 rfl ?_
      refine EV.cv r_X1_readClause_37 (aV1 mt_84 la_1) (c_wordG tp gb hn rg tx_3 (by decide) lBird (by omega)) ?_
      refine EV.b0_eq r_X1_readClause_40 (fun h40 => ?_) (fun h40 => ?_)
      · -- 40 t
        refine EV.l (lv' := [(0, _), (1, _)]) r_X1_readClause_51 rfl ?_
        refine EV.lcT r_X1_readClause_52 rfl ?_
        refine EV.cv r_X1_readClause_54 (aV1 mt_84 la_1) (c_wordG tp gb hn rg tx_4 (by decide) lCoun (by omega)) ?_
        refine EV.b0_eq r_X1_readClause_57 (fun h57 => ?_) (fun h57 => ?_)
        · -- 57 t
          have hw : kcl g n s = 0 := (if_neg (bf_n h6)).trans ((if_neg (bf_n h23)).trans ((if_neg (bf_n h40)).trans (if_neg (bf_n h57))))
          refine EV.l (lv' := [(0, _), (1, _)]) r_X1_readClause_68 rfl ?_
          refine EV.o r_X1_readClause_69 (icN (1) (v := 1)) ?_
          refine EV.cu r_X1_readClause_70 (aV1 mt_88 la_1) (c_fail (r := .inl s) rg (by decide) (by decide) (by omega)) (fun I2 h2 => ?_)
          have t : clsT g n κ s = (κ, .inr (1, s)) := clsT_0 hw
          have h2 : RD g n (clsT g n κ s).2 I2 ∧ (∃ K, HC 25 K I2 ∧ CU K ∧ ∀ s2, (clsT g n κ s).2 = .inl s2 → K = (clsT g n κ s).1) ∧ DF I I2 := by rw [t]; exact ⟨h2.1, ⟨κ, hk.ro h2.2, cb.u, fun s2 z => inr_ne z⟩, h2.2.df⟩
          exact EV.ru r_X1_readClause_73 (h2)
        · -- 57 f
          have hw : kcl g n s = 4 := (if_neg (bf_n h6)).trans ((if_neg (bf_n h23)).trans ((if_neg (bf_n h40)).trans (if_pos h57)))
          refine EV.l (lv' := [(0, _), (1, _)]) r_X1_readClause_60 rfl ?_
          refine EV.l (lv' := [(0, _), (1, _)]) r_X1_readClause_61 rfl ?_
          refine EV.cu r_X1_readClause_62 (aV1 mt_12 la_25) (c_rCou tp gb hn rg hk cb hw (by omega)) (fun I2 h2 => ?_)
          refine EV.g r_X1_readClause_65 ?_
          exact EV.ru r_X1_readClause_73 (h2)
      · -- 40 f
        have hw : kcl g n s = 3 := (if_neg (bf_n h6)).trans ((if_neg (bf_n h23)).trans (if_pos h40))
        refine EV.l (lv' := [(0, _), (1, _)]) r_X1_readClause_43 rfl ?_
        refine EV.l (lv' := [(0, _), (1, _)]) r_X1_readClause_44 rfl ?_
        refine EV.cu r_X1_readClause_45 (aV1 mt_11 la_25) (c_rBir tp gb hn rg hk cb hw (by omega)) (fun I2 h2 => ?_)
        refine EV.g r_X1_readClause_48 ?_
        exact EV.ru r_X1_readClause_73 (h2)
    · -- 23 f
      have hw : kcl g n s = 2 := (if_neg (bf_n h6)).trans (if_pos h23)
      refine EV.l (lv' := [(0, _), (1, _)]) r_X1_readClause_26 rfl ?_
      refine EV.l (lv' := [(0, _), (1, _)]) r_X1_readClause_27 rfl ?_
      refine EV.cu r_X1_readClause_28 (aV1 mt_10 la_25) (c_rRul tp gb hn rg hk cb hw (by omega)) (fun I2 h2 => ?_)
      refine EV.g r_X1_readClause_31 ?_
      exact EV.ru r_X1_readClause_73 (h2)
  · -- 6 f
    have hw : kcl g n s = 1 := if_pos h6
    refine EV.l (lv' := [(0, _), (1, _)]) r_X1_readClause_9 rfl ?_
    refine EV.l (lv' := [(0, _), (1, _)]) r_X1_readClause_10 rfl ?_
    refine EV.cu r_X1_readClause_11 (aV1 mt_9 la_25) (c_rSay tp gb hn rg hk cb hw (by omega)) (fun I2 h2 => ?_)
    refine EV.g r_X1_readClause_14 ?_
    exact EV.ru r_X1_readClause_73 (h2)
