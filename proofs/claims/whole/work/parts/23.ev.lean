/-! The interpreter's world: what is shown of runs, without the machine. -/
abbrev LO : Type := Nat ⊕ (Nat ⊕ (Nat × List (Option Nat)))
def LAYO : List LO := [.inr (.inr (10, [some 1, some 4, some 25, some 46, some 53, some 60, some 61, some 62, some 71, some 82, some 89, some 94, none, none, none])),
  .inr (.inr (6, [some 2, none, none, none, none, none, none, none, none])),
  .inr (.inr (7, [some 3])),
  .inl 600,
  .inr (.inr (1, [some 5, some 7, some 9, some 11, some 13, some 15, some 17, some 19, some 21, some 23, none, none, none, none])),
  .inr (.inr (7, [some 6])),
  .inl 9,
  .inr (.inr (7, [some 8])),
  .inl 9,
  .inr (.inr (7, [some 10])),
  .inl 9,
  .inr (.inr (7, [some 12])),
  .inl 12,
  .inr (.inr (7, [some 14])),
  .inl 12,
  .inr (.inr (7, [some 16])),
  .inl 12,
  .inr (.inr (7, [some 18])),
  .inl 4,
  .inr (.inr (7, [some 20])),
  .inl 4,
  .inr (.inr (7, [some 22])),
  .inl 4,
  .inr (.inr (7, [some 24])),
  .inl 4,
  .inr (.inr (1, [some 26, some 28, some 30, some 32, some 34, some 36, some 38, some 40, some 42, some 44, none, none, none, none])),
  .inr (.inr (7, [some 27])),
  .inl 9,
  .inr (.inr (7, [some 29])),
  .inl 9,
  .inr (.inr (7, [some 31])),
  .inl 9,
  .inr (.inr (7, [some 33])),
  .inl 12,
  .inr (.inr (7, [some 35])),
  .inl 12,
  .inr (.inr (7, [some 37])),
  .inl 12,
  .inr (.inr (7, [some 39])),
  .inl 4,
  .inr (.inr (7, [some 41])),
  .inl 4,
  .inr (.inr (7, [some 43])),
  .inl 4,
  .inr (.inr (7, [some 45])),
  .inl 4,
  .inr (.inr (3, [some 47, some 49, some 51, none])),
  .inr (.inr (7, [some 48])),
  .inl 150,
  .inr (.inr (7, [some 50])),
  .inl 150,
  .inr (.inr (7, [some 52])),
  .inl 6,
  .inr (.inr (3, [some 54, some 56, some 58, none])),
  .inr (.inr (7, [some 55])),
  .inl 150,
  .inr (.inr (7, [some 57])),
  .inl 150,
  .inr (.inr (7, [some 59])),
  .inl 6,
  .inr (.inr (0, [none, none])),
  .inr (.inr (0, [none, none])),
  .inr (.inr (5, [some 63, some 65, some 67, some 69, none, none, none, none])),
  .inr (.inr (7, [some 64])),
  .inl 150,
  .inr (.inr (7, [some 66])),
  .inl 150,
  .inr (.inr (7, [some 68])),
  .inl 150,
  .inr (.inr (7, [some 70])),
  .inl 150,
  .inr (.inr (2, [some 4, some 46, some 72, some 74, some 76, some 78, some 80, none, none])),
  .inr (.inr (7, [some 73])),
  .inl 9,
  .inr (.inr (7, [some 75])),
  .inl 4,
  .inr (.inr (7, [some 77])),
  .inl 4,
  .inr (.inr (7, [some 79])),
  .inl 4,
  .inr (.inr (7, [some 81])),
  .inl 4,
  .inr (.inr (4, [some 83, some 85, some 87, none, none])),
  .inr (.inr (7, [some 84])),
  .inl 391,
  .inr (.inr (7, [some 86])),
  .inl 1173,
  .inr (.inr (7, [some 88])),
  .inl 3,
  .inr (.inr (8, [some 4, some 71, some 60, some 90, some 92, none, none, none, none, none])),
  .inr (.inr (7, [some 91])),
  .inl 40,
  .inr (.inr (7, [some 93])),
  .inl 9,
  .inr (.inr (9, [some 4, some 95, none])),
  .inr (.inr (2, [some 4, some 46, some 96, some 98, some 100, some 102, some 104, none, none])),
  .inr (.inr (7, [some 97])),
  .inl 9,
  .inr (.inr (7, [some 99])),
  .inl 4,
  .inr (.inr (7, [some 101])),
  .inl 4,
  .inr (.inr (7, [some 103])),
  .inl 4,
  .inr (.inr (7, [some 105])),
  .inl 4,
  .inr (.inr (11, [none, some 107, none, none, none, none, none, none, none, some 108, some 109, some 110, some 111, some 112, some 113, some 114, some 115, some 116, none, none, none, none, none, none, none, none, some 117, some 118, some 119, some 120, some 121, none, none, some 122, some 123, some 124, none, none, none, none, none, none, some 125, some 126, some 127, some 128, some 129, none, some 130, some 131, none, some 132, some 133, none, some 134, none])),
  .inl 2,
  .inl 600,
  .inl 27,
  .inl 36,
  .inl 8,
  .inl 8,
  .inl 27,
  .inl 36,
  .inl 8,
  .inl 8,
  .inl 150,
  .inl 150,
  .inl 150,
  .inl 150,
  .inl 150,
  .inl 6,
  .inl 200,
  .inl 200,
  .inl 31,
  .inl 31,
  .inl 496,
  .inl 9,
  .inl 9,
  .inl 40,
  .inl 4,
  .inl 40,
  .inr (.inl 14),
  .inl 1584,
  .inr (.inl 1)]
theorem la_0 : LAYO[0]? = some (.inr (.inr (10, [some 1, some 4, some 25, some 46, some 53, some 60, some 61, some 62, some 71, some 82, some 89, some 94, none, none, none]))) := by decide +kernel
theorem la_1 : LAYO[1]? = some (.inr (.inr (6, [some 2, none, none, none, none, none, none, none, none]))) := by decide +kernel
theorem la_2 : LAYO[2]? = some (.inr (.inr (7, [some 3]))) := by decide +kernel
theorem la_3 : LAYO[3]? = some (.inl 600) := by decide +kernel
theorem la_4 : LAYO[4]? = some (.inr (.inr (1, [some 5, some 7, some 9, some 11, some 13, some 15, some 17, some 19, some 21, some 23, none, none, none, none]))) := by decide +kernel
theorem la_5 : LAYO[5]? = some (.inr (.inr (7, [some 6]))) := by decide +kernel
theorem la_6 : LAYO[6]? = some (.inl 9) := by decide +kernel
theorem la_7 : LAYO[7]? = some (.inr (.inr (7, [some 8]))) := by decide +kernel
theorem la_8 : LAYO[8]? = some (.inl 9) := by decide +kernel
theorem la_9 : LAYO[9]? = some (.inr (.inr (7, [some 10]))) := by decide +kernel
theorem la_10 : LAYO[10]? = some (.inl 9) := by decide +kernel
theorem la_11 : LAYO[11]? = some (.inr (.inr (7, [some 12]))) := by decide +kernel
theorem la_12 : LAYO[12]? = some (.inl 12) := by decide +kernel
theorem la_13 : LAYO[13]? = some (.inr (.inr (7, [some 14]))) := by decide +kernel
theorem la_14 : LAYO[14]? = some (.inl 12) := by decide +kernel
theorem la_15 : LAYO[15]? = some (.inr (.inr (7, [some 16]))) := by decide +kernel
theorem la_16 : LAYO[16]? = some (.inl 12) := by decide +kernel
theorem la_17 : LAYO[17]? = some (.inr (.inr (7, [some 18]))) := by decide +kernel
theorem la_18 : LAYO[18]? = some (.inl 4) := by decide +kernel
theorem la_19 : LAYO[19]? = some (.inr (.inr (7, [some 20]))) := by decide +kernel
theorem la_20 : LAYO[20]? = some (.inl 4) := by decide +kernel
theorem la_21 : LAYO[21]? = some (.inr (.inr (7, [some 22]))) := by decide +kernel
theorem la_22 : LAYO[22]? = some (.inl 4) := by decide +kernel
theorem la_23 : LAYO[23]? = some (.inr (.inr (7, [some 24]))) := by decide +kernel
theorem la_24 : LAYO[24]? = some (.inl 4) := by decide +kernel
theorem la_25 : LAYO[25]? = some (.inr (.inr (1, [some 26, some 28, some 30, some 32, some 34, some 36, some 38, some 40, some 42, some 44, none, none, none, none]))) := by decide +kernel
theorem la_26 : LAYO[26]? = some (.inr (.inr (7, [some 27]))) := by decide +kernel
theorem la_27 : LAYO[27]? = some (.inl 9) := by decide +kernel
theorem la_28 : LAYO[28]? = some (.inr (.inr (7, [some 29]))) := by decide +kernel
theorem la_29 : LAYO[29]? = some (.inl 9) := by decide +kernel
theorem la_30 : LAYO[30]? = some (.inr (.inr (7, [some 31]))) := by decide +kernel
theorem la_31 : LAYO[31]? = some (.inl 9) := by decide +kernel
theorem la_32 : LAYO[32]? = some (.inr (.inr (7, [some 33]))) := by decide +kernel
theorem la_33 : LAYO[33]? = some (.inl 12) := by decide +kernel
theorem la_34 : LAYO[34]? = some (.inr (.inr (7, [some 35]))) := by decide +kernel
theorem la_35 : LAYO[35]? = some (.inl 12) := by decide +kernel
theorem la_36 : LAYO[36]? = some (.inr (.inr (7, [some 37]))) := by decide +kernel
theorem la_37 : LAYO[37]? = some (.inl 12) := by decide +kernel
theorem la_38 : LAYO[38]? = some (.inr (.inr (7, [some 39]))) := by decide +kernel
theorem la_39 : LAYO[39]? = some (.inl 4) := by decide +kernel
theorem la_40 : LAYO[40]? = some (.inr (.inr (7, [some 41]))) := by decide +kernel
theorem la_41 : LAYO[41]? = some (.inl 4) := by decide +kernel
theorem la_42 : LAYO[42]? = some (.inr (.inr (7, [some 43]))) := by decide +kernel
theorem la_43 : LAYO[43]? = some (.inl 4) := by decide +kernel
theorem la_44 : LAYO[44]? = some (.inr (.inr (7, [some 45]))) := by decide +kernel
theorem la_45 : LAYO[45]? = some (.inl 4) := by decide +kernel
theorem la_46 : LAYO[46]? = some (.inr (.inr (3, [some 47, some 49, some 51, none]))) := by decide +kernel
theorem la_47 : LAYO[47]? = some (.inr (.inr (7, [some 48]))) := by decide +kernel
theorem la_48 : LAYO[48]? = some (.inl 150) := by decide +kernel
theorem la_49 : LAYO[49]? = some (.inr (.inr (7, [some 50]))) := by decide +kernel
theorem la_50 : LAYO[50]? = some (.inl 150) := by decide +kernel
theorem la_51 : LAYO[51]? = some (.inr (.inr (7, [some 52]))) := by decide +kernel
theorem la_52 : LAYO[52]? = some (.inl 6) := by decide +kernel
theorem la_53 : LAYO[53]? = some (.inr (.inr (3, [some 54, some 56, some 58, none]))) := by decide +kernel
theorem la_54 : LAYO[54]? = some (.inr (.inr (7, [some 55]))) := by decide +kernel
theorem la_55 : LAYO[55]? = some (.inl 150) := by decide +kernel
theorem la_56 : LAYO[56]? = some (.inr (.inr (7, [some 57]))) := by decide +kernel
theorem la_57 : LAYO[57]? = some (.inl 150) := by decide +kernel
theorem la_58 : LAYO[58]? = some (.inr (.inr (7, [some 59]))) := by decide +kernel
theorem la_59 : LAYO[59]? = some (.inl 6) := by decide +kernel
theorem la_60 : LAYO[60]? = some (.inr (.inr (0, [none, none]))) := by decide +kernel
theorem la_61 : LAYO[61]? = some (.inr (.inr (0, [none, none]))) := by decide +kernel
theorem la_62 : LAYO[62]? = some (.inr (.inr (5, [some 63, some 65, some 67, some 69, none, none, none, none]))) := by decide +kernel
theorem la_63 : LAYO[63]? = some (.inr (.inr (7, [some 64]))) := by decide +kernel
theorem la_64 : LAYO[64]? = some (.inl 150) := by decide +kernel
theorem la_65 : LAYO[65]? = some (.inr (.inr (7, [some 66]))) := by decide +kernel
theorem la_66 : LAYO[66]? = some (.inl 150) := by decide +kernel
theorem la_67 : LAYO[67]? = some (.inr (.inr (7, [some 68]))) := by decide +kernel
theorem la_68 : LAYO[68]? = some (.inl 150) := by decide +kernel
theorem la_69 : LAYO[69]? = some (.inr (.inr (7, [some 70]))) := by decide +kernel
theorem la_70 : LAYO[70]? = some (.inl 150) := by decide +kernel
theorem la_71 : LAYO[71]? = some (.inr (.inr (2, [some 4, some 46, some 72, some 74, some 76, some 78, some 80, none, none]))) := by decide +kernel
theorem la_72 : LAYO[72]? = some (.inr (.inr (7, [some 73]))) := by decide +kernel
theorem la_73 : LAYO[73]? = some (.inl 9) := by decide +kernel
theorem la_74 : LAYO[74]? = some (.inr (.inr (7, [some 75]))) := by decide +kernel
theorem la_75 : LAYO[75]? = some (.inl 4) := by decide +kernel
theorem la_76 : LAYO[76]? = some (.inr (.inr (7, [some 77]))) := by decide +kernel
theorem la_77 : LAYO[77]? = some (.inl 4) := by decide +kernel
theorem la_78 : LAYO[78]? = some (.inr (.inr (7, [some 79]))) := by decide +kernel
theorem la_79 : LAYO[79]? = some (.inl 4) := by decide +kernel
theorem la_80 : LAYO[80]? = some (.inr (.inr (7, [some 81]))) := by decide +kernel
theorem la_81 : LAYO[81]? = some (.inl 4) := by decide +kernel
theorem la_82 : LAYO[82]? = some (.inr (.inr (4, [some 83, some 85, some 87, none, none]))) := by decide +kernel
theorem la_83 : LAYO[83]? = some (.inr (.inr (7, [some 84]))) := by decide +kernel
theorem la_84 : LAYO[84]? = some (.inl 391) := by decide +kernel
theorem la_85 : LAYO[85]? = some (.inr (.inr (7, [some 86]))) := by decide +kernel
theorem la_86 : LAYO[86]? = some (.inl 1173) := by decide +kernel
theorem la_87 : LAYO[87]? = some (.inr (.inr (7, [some 88]))) := by decide +kernel
theorem la_88 : LAYO[88]? = some (.inl 3) := by decide +kernel
theorem la_89 : LAYO[89]? = some (.inr (.inr (8, [some 4, some 71, some 60, some 90, some 92, none, none, none, none, none]))) := by decide +kernel
theorem la_90 : LAYO[90]? = some (.inr (.inr (7, [some 91]))) := by decide +kernel
theorem la_91 : LAYO[91]? = some (.inl 40) := by decide +kernel
theorem la_92 : LAYO[92]? = some (.inr (.inr (7, [some 93]))) := by decide +kernel
theorem la_93 : LAYO[93]? = some (.inl 9) := by decide +kernel
theorem la_94 : LAYO[94]? = some (.inr (.inr (9, [some 4, some 95, none]))) := by decide +kernel
theorem la_95 : LAYO[95]? = some (.inr (.inr (2, [some 4, some 46, some 96, some 98, some 100, some 102, some 104, none, none]))) := by decide +kernel
theorem la_96 : LAYO[96]? = some (.inr (.inr (7, [some 97]))) := by decide +kernel
theorem la_97 : LAYO[97]? = some (.inl 9) := by decide +kernel
theorem la_98 : LAYO[98]? = some (.inr (.inr (7, [some 99]))) := by decide +kernel
theorem la_99 : LAYO[99]? = some (.inl 4) := by decide +kernel
theorem la_100 : LAYO[100]? = some (.inr (.inr (7, [some 101]))) := by decide +kernel
theorem la_101 : LAYO[101]? = some (.inl 4) := by decide +kernel
theorem la_102 : LAYO[102]? = some (.inr (.inr (7, [some 103]))) := by decide +kernel
theorem la_103 : LAYO[103]? = some (.inl 4) := by decide +kernel
theorem la_104 : LAYO[104]? = some (.inr (.inr (7, [some 105]))) := by decide +kernel
theorem la_105 : LAYO[105]? = some (.inl 4) := by decide +kernel
theorem la_106 : LAYO[106]? = some (.inr (.inr (11, [none, some 107, none, none, none, none, none, none, none, some 108, some 109, some 110, some 111, some 112, some 113, some 114, some 115, some 116, none, none, none, none, none, none, none, none, some 117, some 118, some 119, some 120, some 121, none, none, some 122, some 123, some 124, none, none, none, none, none, none, some 125, some 126, some 127, some 128, some 129, none, some 130, some 131, none, some 132, some 133, none, some 134, none]))) := by decide +kernel
theorem la_107 : LAYO[107]? = some (.inl 2) := by decide +kernel
theorem la_108 : LAYO[108]? = some (.inl 600) := by decide +kernel
theorem la_109 : LAYO[109]? = some (.inl 27) := by decide +kernel
theorem la_110 : LAYO[110]? = some (.inl 36) := by decide +kernel
theorem la_111 : LAYO[111]? = some (.inl 8) := by decide +kernel
theorem la_112 : LAYO[112]? = some (.inl 8) := by decide +kernel
theorem la_113 : LAYO[113]? = some (.inl 27) := by decide +kernel
theorem la_114 : LAYO[114]? = some (.inl 36) := by decide +kernel
theorem la_115 : LAYO[115]? = some (.inl 8) := by decide +kernel
theorem la_116 : LAYO[116]? = some (.inl 8) := by decide +kernel
theorem la_117 : LAYO[117]? = some (.inl 150) := by decide +kernel
theorem la_118 : LAYO[118]? = some (.inl 150) := by decide +kernel
theorem la_119 : LAYO[119]? = some (.inl 150) := by decide +kernel
theorem la_120 : LAYO[120]? = some (.inl 150) := by decide +kernel
theorem la_121 : LAYO[121]? = some (.inl 150) := by decide +kernel
theorem la_122 : LAYO[122]? = some (.inl 6) := by decide +kernel
theorem la_123 : LAYO[123]? = some (.inl 200) := by decide +kernel
theorem la_124 : LAYO[124]? = some (.inl 200) := by decide +kernel
theorem la_125 : LAYO[125]? = some (.inl 31) := by decide +kernel
theorem la_126 : LAYO[126]? = some (.inl 31) := by decide +kernel
theorem la_127 : LAYO[127]? = some (.inl 496) := by decide +kernel
theorem la_128 : LAYO[128]? = some (.inl 9) := by decide +kernel
theorem la_129 : LAYO[129]? = some (.inl 9) := by decide +kernel
theorem la_130 : LAYO[130]? = some (.inl 40) := by decide +kernel
theorem la_131 : LAYO[131]? = some (.inl 4) := by decide +kernel
theorem la_132 : LAYO[132]? = some (.inl 40) := by decide +kernel
theorem la_133 : LAYO[133]? = some (.inr (.inl 14)) := by decide +kernel
theorem la_134 : LAYO[134]? = some (.inl 1584) := by decide +kernel
theorem la_135 : LAYO[135]? = some (.inr (.inl 1)) := by decide +kernel
def Ev (sc : Option (Nat × (Nat → Int32))) (M : MI) (d pc : Nat) (lv : LV) (st : List Value) (G : AH) (res : Option Value ⊕ Nat) (G' : AH) (k : Nat) : Prop :=
  ∃ n0, ∀ N n, n0 ≤ N → n0 ≤ n → ∀ c z, run CLS FTY MT TXS sc (call CLS FTY MT TXS N d) M n (pc, lv, st, G, c, z) = some (res, G', c + k, z + 6 * k)
def Cl (d j : Nat) (as : List Value) (G : AH) (res : Option Value ⊕ Nat) (G' : AH) (k : Nat) : Prop := ∃ n0, ∀ N, n0 ≤ N → call CLS FTY MT TXS N d j as G = some (res, G', k, 6 * k)
/-- from here a run comes to something of which Q holds -/
def EV (sc : Option (Nat × (Nat → Int32))) (M : MI) (d pc : Nat) (lv : LV) (st : List Value) (G : AH) (Q : (Option Value ⊕ Nat) → AH → Nat → Prop) : Prop := ∃ res G' k, Ev sc M d pc lv st G res G' k ∧ Q res G' k
def CL (d j : Nat) (as : List Value) (G : AH) (Q : (Option Value ⊕ Nat) → AH → Nat → Prop) : Prop := ∃ res G' k, Cl d j as G res G' k ∧ Q res G' k
section EVS
variable {sc : Option (Nat × (Nat → Int32))} {M : MI} {d pc : Nat} {lv : LV} {st : List Value} {G : AH} {Q : (Option Value ⊕ Nat) → AH → Nat → Prop}
theorem EV.mono {Q' : (Option Value ⊕ Nat) → AH → Nat → Prop} (h : EV sc M d pc lv st G Q) (hq : ∀ r G' k, Q r G' k → Q' r G' k) : EV sc M d pc lv st G Q' := by
  obtain ⟨r, G', k, h1, h2⟩ := h
  exact ⟨r, G', k, h1, hq _ _ _ h2⟩
theorem CL.mono {j : Nat} {as : List Value} {Q' : (Option Value ⊕ Nat) → AH → Nat → Prop} (h : CL d j as G Q) (hq : ∀ r G' k, Q r G' k → Q' r G' k) : CL d j as G Q' := by
  obtain ⟨r, G', k, h1, h2⟩ := h
  exact ⟨r, G', k, h1, hq _ _ _ h2⟩
theorem EV.go {pc' : Nat} {lv' : LV} {st' : List Value} {G' : AH} (h : ∀ (orc : Nat → List Value → AH → Option Res) (c z : Nat), step1 CLS FTY MT TXS sc orc M (pc, lv, st, G, c, z) = some (.inl (pc', lv', st', G', c, z))) (k : EV sc M d pc' lv' st' G' Q) : EV sc M d pc lv st G Q := by
  obtain ⟨r, G1, q, ⟨n0, h1⟩, h2⟩ := k
  refine ⟨r, G1, q, ⟨n0 + 1, fun N n hN hn c z => ?_⟩, h2⟩
  obtain ⟨n', rfl⟩ : ∃ n', n = n' + 1 := ⟨n - 1, by omega⟩
  show run CLS FTY MT TXS sc (call CLS FTY MT TXS N d) M (n' + 1) _ = _
  unfold run
  rw [h]
  exact h1 N n' (by omega) (by omega) c z
theorem EV.ret {v : Option Value} {i : Instr} {len a b : Nat} (hr : xlk M.rw pc = some (i, len, a, b)) (h : retop M.rt i st = some v) (hq : Q (.inl v) G 0) (h1 : stk i st = none := by rfl) (h2 : locop i M.ml b lv st = none := by rfl) (h3 : jmp i a pc st = none := by rfl) (h4 : heapop FTY sc i a b st G = none := by rfl) (h5 : ldop i a b = none := by rfl) : EV sc M d pc lv st G Q := by
  refine ⟨.inl v, G, 0, ⟨1, fun N n hN hn c z => ?_⟩, hq⟩
  obtain ⟨n', rfl⟩ : ∃ n', n = n' + 1 := ⟨n - 1, by omega⟩
  show run CLS FTY MT TXS sc (call CLS FTY MT TXS N d) M (n' + 1) _ = _
  unfold run
  have e : step1 CLS FTY MT TXS sc (call CLS FTY MT TXS N d) M (pc, lv, st, G, c, z) = some (.inr (.inl v, G, c, z)) := by
    unfold step1
    simp only [hr, h1, h2, h3, h4, h5, h]
  rw [e]
  rfl
theorem EV.op {i : Instr} {len a b : Nat} {st' : List Value} (hr : xlk M.rw pc = some (i, len, a, b)) (h : stk i st = some st') (k : EV sc M d (pc + len) lv st' G Q) : EV sc M d pc lv st G Q :=
  EV.go (fun orc c z => by unfold step1; simp only [hr, h]) k
theorem EV.lo {i : Instr} {len a b : Nat} {lv' : LV} {st' : List Value} (hr : xlk M.rw pc = some (i, len, a, b)) (h : locop i M.ml b lv st = some (lv', st')) (k : EV sc M d (pc + len) lv' st' G Q) (h1 : stk i st = none := by rfl) : EV sc M d pc lv st G Q :=
  EV.go (fun orc c z => by unfold step1; simp only [hr, h1, h]) k
theorem EV.to {i : Instr} {len a b pc' : Nat} {st' : List Value} (hr : xlk M.rw pc = some (i, len, a, b)) (h : jmp i a pc st = some (pc', st')) (k : EV sc M d pc' lv st' G Q) (h1 : stk i st = none := by rfl) (h2 : locop i M.ml b lv st = none := by rfl) : EV sc M d pc lv st G Q :=
  EV.go (fun orc c z => by unfold step1; simp only [hr, h1, h2, h]) k
theorem EV.hop {i : Instr} {len a b : Nat} {st' : List Value} {G' : AH} (hr : xlk M.rw pc = some (i, len, a, b)) (h : heapop FTY sc i a b st G = some (st', G')) (k : EV sc M d (pc + len) lv st' G' Q) (h1 : stk i st = none := by rfl) (h2 : locop i M.ml b lv st = none := by rfl) (h3 : jmp i a pc st = none := by rfl) : EV sc M d pc lv st G Q :=
  EV.go (fun orc c z => by unfold step1; simp only [hr, h1, h2, h3, h]) k
theorem EV.ldc {i : Instr} {len a b : Nat} {v : Value} (hr : xlk M.rw pc = some (i, len, a, b)) (h : ldop i a b = some v) (k : EV sc M d (pc + len) lv (v :: st) G Q) (h1 : stk i st = none := by rfl) (h2 : locop i M.ml b lv st = none := by rfl) (h3 : jmp i a pc st = none := by rfl) (h4 : heapop FTY sc i a b st G = none := by rfl) : EV sc M d pc lv st G Q :=
  EV.go (fun orc c z => by unfold step1; simp only [hr, h1, h2, h3, h4, h]) k
/-- what an invocation asks of the row ahead of it -/
def isInv : Instr → Bool
  | .invokestatic _ => true
  | .invokevirtual _ => true
  | .invokespecial _ => true
  | _ => false
theorem inv_none {i : Instr} (h : isInv i = true) {a b n len : Nat} {hd : List HD} {c z : Nat} : stk i st = none ∧ locop i n b lv st = none ∧ jmp i a pc st = none ∧ heapop FTY sc i a b st G = none ∧ ldop i a b = none ∧ (∀ rt, retop rt i st = none) ∧ newop CLS FTY hd i len a pc lv st G c z = none := by
  cases i <;> first | exact ⟨rfl, rfl, rfl, rfl, rfl, fun _ => rfl, rfl⟩ | cases h
/-- the arguments and what stays below them -/
def invA (MT : List MI) (i : Instr) (a : Nat) (st : List Value) (G : AH) : Option (List Value × List Value) := match npar MT a with
  | none => none
  | some n => match i with
    | .invokestatic _ => if n ≤ st.length then some ((st.take n).reverse, st.drop n) else none
    | .invokevirtual _ => if n ≤ st.length then (match st.drop n with
      | .ref o :: r => if recvOk MT a G o = true then some (.ref o :: (st.take n).reverse, r) else none
      | _ => none) else none
    | .invokespecial _ => if n ≤ st.length then (match st.drop n with
      | .ref o :: r => some (.ref o :: (st.take n).reverse, r)
      | _ => none) else none
    | _ => none
theorem invA_op {orc : Nat → List Value → AH → Option Res} {i : Instr} {a : Nat} {as rest : List Value} {c z : Nat} (h : invA MT i a st G = some (as, rest)) : invop MT orc TXS M i a pc lv st G c z = calls orc TXS M.hd M.rw M.ml a pc lv as rest G c z := by
  unfold invA at h
  unfold invop
  split at h
  · cases h
  · rename_i n hn
    simp only [hn]
    split at h
    · split at h
      · rename_i h1
        cases h
        rw [if_pos h1]
      · cases h
    · split at h
      · rename_i h1
        split at h
        · rename_i o r h2
          split at h
          · rename_i h3
            cases h
            simp only [if_pos h1, h2, if_pos h3]
          · cases h
        · cases h
      · cases h
    · split at h
      · rename_i h1
        split at h
        · rename_i o r h2
          cases h
          simp only [if_pos h1, h2]
        · cases h
      · cases h
    · cases h
/-- a call that returns -/
theorem EV.inv {i : Instr} {len a b k : Nat} {as rest : List Value} {v : Option Value} {G1 : AH} (hr : xlk M.rw pc = some (i, len, a, b)) (hi : isInv i = true) (ha : a < 900) (hA : invA MT i a st G = some (as, rest)) (hw : wcs rest ≤ 8) (hc : Cl d a as G (.inl v) G1 k) (hl : G1.length = G.length)
    (kk : EV sc M d (pc + 3) lv (v.toList ++ rest) G1 (fun r G' q => Q r G' (k + q))) : EV sc M d pc lv st G Q := by
  obtain ⟨r, G2, q, ⟨n0, h1⟩, h2⟩ := kk
  obtain ⟨n1, h3⟩ := hc
  refine ⟨r, G2, k + q, ⟨n0 + n1 + 1, fun N n hN hn c z => ?_⟩, h2⟩
  obtain ⟨n', rfl⟩ : ∃ n', n = n' + 1 := ⟨n - 1, by omega⟩
  show run CLS FTY MT TXS sc (call CLS FTY MT TXS N d) M (n' + 1) _ = _
  unfold run
  have e : step1 CLS FTY MT TXS sc (call CLS FTY MT TXS N d) M (pc, lv, st, G, c, z) = some (.inl (pc + 3, lv, v.toList ++ rest, G1, c + k, z + 6 * k)) := by
    obtain ⟨e1, e2, e3, e4, e5, e6, e7⟩ := inv_none (st := st) (lv := lv) (pc := pc) (G := G) (sc := sc) hi (a := a) (b := b) (n := M.ml) (len := len) (hd := M.hd) (c := c) (z := z)
    unfold step1
    simp only [hr, e1, e2, e3, e4, e5, e6, e7, invA_op hA]
    unfold calls
    rw [if_neg (by omega), if_neg (by omega), h3 N (by omega)]
    simp only [hl, true_or, if_true]
  rw [e]
  have h4 := h1 N n' (by omega) (by omega) (c + k) (z + 6 * k)
  refine h4.trans ?_
  rw [show c + k + q = c + (k + q) by omega, show z + 6 * k + 6 * q = z + 6 * (k + q) by omega]
/-- a member of the JDK -/
theorem EV.prim {i : Instr} {len a b : Nat} {as rest : List Value} {v : Option Value} (hr : xlk M.rw pc = some (i, len, a, b)) (hi : isInv i = true) (ha : 900 ≤ a) (hA : invA MT i a st G = some (as, rest)) (hw : wcs rest ≤ 8) (hc : prim TXS a as G = some (.inl v, G, 0, 0))
    (kk : EV sc M d (pc + 3) lv (v.toList ++ rest) G Q) : EV sc M d pc lv st G Q := by
  refine EV.go (fun orc c z => ?_) kk
  obtain ⟨e1, e2, e3, e4, e5, e6, e7⟩ := inv_none (st := st) (lv := lv) (pc := pc) (G := G) (sc := sc) hi (a := a) (b := b) (n := M.ml) (len := len) (hd := M.hd) (c := c) (z := z)
  unfold step1
  simp only [hr, e1, e2, e3, e4, e5, e6, e7, invA_op hA]
  unfold calls
  rw [if_neg (by omega), if_pos ha, hc]
  simp
/-- a call that throws, and goes on to the caller -/
theorem EV.thr {i : Instr} {len a b k ex : Nat} {as rest : List Value} {G1 : AH} (hr : xlk M.rw pc = some (i, len, a, b)) (hi : isInv i = true) (ha : a < 900) (hA : invA MT i a st G = some (as, rest)) (hw : wcs rest ≤ 8) (hc : Cl d a as G (.inr ex) G1 k) (hl : G1.length = G.length) (hx : ex < 2) (hh : M.hd = [])
    (hq : Q (.inr ex) G1 k) : EV sc M d pc lv st G Q := by
  obtain ⟨n1, h3⟩ := hc
  refine ⟨.inr ex, G1, k, ⟨n1 + 1, fun N n hN hn c z => ?_⟩, hq⟩
  obtain ⟨n', rfl⟩ : ∃ n', n = n' + 1 := ⟨n - 1, by omega⟩
  show run CLS FTY MT TXS sc (call CLS FTY MT TXS N d) M (n' + 1) _ = _
  unfold run
  have e : step1 CLS FTY MT TXS sc (call CLS FTY MT TXS N d) M (pc, lv, st, G, c, z) = some (.inr (.inr ex, G1, c + k, z + 6 * k)) := by
    obtain ⟨e1, e2, e3, e4, e5, e6, e7⟩ := inv_none (st := st) (lv := lv) (pc := pc) (G := G) (sc := sc) hi (a := a) (b := b) (n := M.ml) (len := len) (hd := M.hd) (c := c) (z := z)
    unfold step1
    simp only [hr, e1, e2, e3, e4, e5, e6, e7, invA_op hA]
    unfold calls
    rw [if_neg (by omega), if_neg (by omega), h3 N (by omega)]
    simp only [hl, hx, and_self, if_true, hh, hfind, List.all_nil]
  rw [e]
/-- .. and is caught -/
theorem EV.cat {i : Instr} {len a b k ex h pc' : Nat} {lv' : LV} {as rest : List Value} {G1 : AH} (hr : xlk M.rw pc = some (i, len, a, b)) (hi : isInv i = true) (ha : a < 900) (hA : invA MT i a st G = some (as, rest)) (hw : wcs rest ≤ 8) (hc : Cl d a as G (.inr ex) G1 k) (hl : G1.length = G.length) (hx : ex < 2) (hh : hfind M.hd pc ex = some h) (hst : hstore M.rw M.ml h lv = some (pc', lv'))
    (kk : EV sc M d pc' lv' [] G1 (fun r G' q => Q r G' (k + q))) : EV sc M d pc lv st G Q := by
  obtain ⟨r, G2, q, ⟨n0, h1⟩, h2⟩ := kk
  obtain ⟨n1, h3⟩ := hc
  refine ⟨r, G2, k + q, ⟨n0 + n1 + 1, fun N n hN hn c z => ?_⟩, h2⟩
  obtain ⟨n', rfl⟩ : ∃ n', n = n' + 1 := ⟨n - 1, by omega⟩
  show run CLS FTY MT TXS sc (call CLS FTY MT TXS N d) M (n' + 1) _ = _
  unfold run
  have e : step1 CLS FTY MT TXS sc (call CLS FTY MT TXS N d) M (pc, lv, st, G, c, z) = some (.inl (pc', lv', [], G1, c + k, z + 6 * k)) := by
    obtain ⟨e1, e2, e3, e4, e5, e6, e7⟩ := inv_none (st := st) (lv := lv) (pc := pc) (G := G) (sc := sc) hi (a := a) (b := b) (n := M.ml) (len := len) (hd := M.hd) (c := c) (z := z)
    unfold step1
    simp only [hr, e1, e2, e3, e4, e5, e6, e7, invA_op hA]
    unfold calls
    rw [if_neg (by omega), if_neg (by omega), h3 N (by omega)]
    simp only [hl, hx, and_self, if_true, hh, hst]
  rw [e]
  have h4 := h1 N n' (by omega) (by omega) (c + k) (z + 6 * k)
  refine h4.trans ?_
  rw [show c + k + q = c + (k + q) by omega, show z + 6 * k + 6 * q = z + 6 * (k + q) by omega]
/-- the throw itself -/
theorem EV.new_thr {idx len a b : Nat} (hr : xlk M.rw pc = some (.new idx, len, a, b)) (ha : 1000 ≤ a) (hh : M.hd = []) (hw : wcs st ≤ 8) (hq : Q (.inr (a - 1000)) G 1) : EV sc M d pc lv st G Q := by
  refine ⟨.inr (a - 1000), G, 1, ⟨1, fun N n hN hn c z => ?_⟩, hq⟩
  obtain ⟨n', rfl⟩ : ∃ n', n = n' + 1 := ⟨n - 1, by omega⟩
  show run CLS FTY MT TXS sc (call CLS FTY MT TXS N d) M (n' + 1) _ = _
  unfold run
  have e : step1 CLS FTY MT TXS sc (call CLS FTY MT TXS N d) M (pc, lv, st, G, c, z) = some (.inr (.inr (a - 1000), G, c + 1, z + 6)) := by
    unfold step1
    simp only [hr, stk, locop, jmp, heapop, ldop, retop, newop, ha, if_true, hh, hw, and_self]
  rw [e]
/-- a method begins -/
theorem CL.intro {j : Nat} {as : List Value} (hM : MT[j]? = some M) (hs : (lg_sl as).length ≤ M.ml) (h : EV none M d 0 (lv_args 0 as) [] G Q) : CL (d + 1) j as G Q := by
  obtain ⟨r, G1, k, ⟨n0, h1⟩, h2⟩ := h
  refine ⟨r, G1, k, ⟨n0, fun N hN => ?_⟩, h2⟩
  unfold call
  simp only [hM, if_pos hs]
  have h3 := h1 N N hN hN 0 0
  rw [h3]
  simp
theorem CL.at {j : Nat} {as : List Value} (h : CL d j as G Q) : ∃ r G' k, Cl d j as G r G' k ∧ Q r G' k := h
theorem Cl.of {j : Nat} {as : List Value} {r : Option Value ⊕ Nat} {G' : AH} {k : Nat} (h : CL d j as G (fun r' G1 k' => r' = r ∧ G1 = G' ∧ k' = k)) : Cl d j as G r G' k := by
  obtain ⟨r', G1, k', h1, rfl, rfl, rfl⟩ := h
  exact h1
end EVS
/-! memory: ints by object and place -/
def slv (f : Nat → Int32) (j : Nat) : Option Nat → Value
  | none => .int (f j)
  | some r => .ref r
def mkS (f : Nat → Int32) (sl : List (Option Nat)) : List Value := sl.mapIdx (slv f)
def mkO (I : Nat → Nat → Int32) (J : Nat → Nat → Int64) (i : Nat) : LO → AO
  | .inl n => oI n (I i)
  | .inr (.inl n) => oL n (J i)
  | .inr (.inr x) => oC x.1 (mkS (I i) x.2)
def hp (I : Nat → Nat → Int32) (J : Nat → Nat → Int64) : AH := LAYO.mapIdx (mkO I J)
def wr {α : Type} (I : Nat → Nat → α) (o j : Nat) (v : α) : Nat → Nat → α := fun o' j' => if o' = o ∧ j' = j then v else I o' j'
theorem wr_same {α : Type} {I : Nat → Nat → α} {o j : Nat} {v : α} : wr I o j v o j = v := by unfold wr; rw [if_pos ⟨rfl, rfl⟩]
theorem wr_ne {α : Type} {I : Nat → Nat → α} {o j o' j' : Nat} {v : α} (h : o' ≠ o ∨ j' ≠ j) : wr I o j v o' j' = I o' j' := by unfold wr; rw [if_neg (fun z => h.elim (fun h => h z.1) (fun h => h z.2))]
theorem hp_len (I I' : Nat → Nat → Int32) (J J' : Nat → Nat → Int64) : (hp I J).length = (hp I' J').length := by unfold hp; rw [List.length_mapIdx, List.length_mapIdx]
theorem hp_at {I : Nat → Nat → Int32} {J : Nat → Nat → Int64} {o : Nat} {lo : LO} (h : LAYO[o]? = some lo) : (hp I J)[o]? = some (mkO I J o lo) := by unfold hp; rw [List.getElem?_mapIdx, h]; rfl
theorem mkS_at {f : Nat → Int32} {sl : List (Option Nat)} {b : Nat} {s : Option Nat} (h : sl[b]? = some s) : (mkS f sl)[b]? = some (slv f b s) := by unfold mkS; rw [List.getElem?_mapIdx, h]; rfl
theorem hp_set {I I' : Nat → Nat → Int32} {J J' : Nat → Nat → Int64} {o : Nat} {lo : LO} {x : AO} (h : LAYO[o]? = some lo) (hx : x = mkO I' J' o lo) (hI : ∀ o', o' ≠ o → I' o' = I o') (hJ : ∀ o', o' ≠ o → J' o' = J o') : (hp I J).set o x = hp I' J' := by
  refine List.ext_getElem? fun i => ?_
  unfold hp
  rw [List.getElem?_set, List.getElem?_mapIdx, List.getElem?_mapIdx, List.length_mapIdx]
  by_cases hi : o = i
  · subst hi
    rw [if_pos rfl, if_pos (List.getElem?_eq_some_iff.mp h).1, h, hx]
    rfl
  · rw [if_neg hi]
    cases hl : LAYO[i]? with
    | none => rfl
    | some l0 =>
      show some (mkO I J i l0) = some (mkO I' J' i l0)
      rcases l0 with n | n | y
      · show some (oI n (I i)) = some (oI n (I' i))
        rw [hI i (Ne.symm hi)]
      · show some (oL n (J i)) = some (oL n (J' i))
        rw [hJ i (Ne.symm hi)]
      · show some (oC y.1 (mkS (I i) y.2)) = some (oC y.1 (mkS (I' i) y.2))
        rw [hI i (Ne.symm hi)]
theorem wr_row {α : Type} {I : Nat → Nat → α} {o j : Nat} {v : α} {o' : Nat} (h : o' ≠ o) : wr I o j v o' = I o' := by
  funext j'
  exact wr_ne (Or.inl h)
section EVM
variable {sc : Option (Nat × (Nat → Int32))} {M : MI} {d pc : Nat} {lv : LV} {st : List Value} {I : Nat → Nat → Int32} {J : Nat → Nat → Int64} {Q : (Option Value ⊕ Nat) → AH → Nat → Prop}
theorem EV.getI {idx a b o : Nat} {sl : List (Option Nat)} (hr : xlk M.rw pc = some (.getfield idx, 3, a, b)) (hl : LAYO[o]? = some (.inr (.inr (a, sl)))) (hs : sl[b]? = some none) (k : EV sc M d (pc + 3) lv (.int (I o b) :: st) (hp I J) Q) : EV sc M d pc lv (.ref o :: st) (hp I J) Q := by
  refine EV.hop hr ?_ k
  have h1 := hp_at (I := I) (J := J) hl
  have h2 := mkS_at (f := I o) hs
  simp only [heapop, h1, mkO, oC, if_true, h2, slv]
theorem EV.getR {idx a b o r : Nat} {sl : List (Option Nat)} (hr : xlk M.rw pc = some (.getfield idx, 3, a, b)) (hl : LAYO[o]? = some (.inr (.inr (a, sl)))) (hs : sl[b]? = some (some r)) (k : EV sc M d (pc + 3) lv (.ref r :: st) (hp I J) Q) : EV sc M d pc lv (.ref o :: st) (hp I J) Q := by
  refine EV.hop hr ?_ k
  have h1 := hp_at (I := I) (J := J) hl
  have h2 := mkS_at (f := I o) hs
  simp only [heapop, h1, mkO, oC, if_true, h2, slv]
theorem EV.putI {idx a b o : Nat} {x : Int32} {sl : List (Option Nat)} (hr : xlk M.rw pc = some (.putfield idx, 3, a, b)) (hl : LAYO[o]? = some (.inr (.inr (a, sl)))) (hs : sl[b]? = some none) (hf : FTY a b = .int) (k : EV sc M d (pc + 3) lv st (hp (wr I o b x) J) Q) : EV sc M d pc lv (.int x :: .ref o :: st) (hp I J) Q := by
  refine EV.hop hr ?_ k
  have h1 := hp_at (I := I) (J := J) hl
  have h3 : b < (mkS (I o) sl).length := by unfold mkS; rw [List.length_mapIdx]; exact (List.getElem?_eq_some_iff.mp hs).1
  have h4 : (hp I J).set o (oC a ((mkS (I o) sl).set b (.int x))) = hp (wr I o b x) J := by
    refine hp_set hl ?_ (fun o' h => wr_row h) (fun _ _ => rfl)
    show oC a _ = oC a (mkS (wr I o b x o) sl)
    refine congrArg (oC a) (List.ext_getElem? fun i => ?_)
    unfold mkS
    rw [List.getElem?_set, List.getElem?_mapIdx, List.getElem?_mapIdx, List.length_mapIdx]
    by_cases hi : b = i
    · subst hi
      rw [if_pos rfl, if_pos (List.getElem?_eq_some_iff.mp hs).1, hs]
      show some (Value.int x) = some (Value.int (wr I o b x o b))
      rw [wr_same]
    · rw [if_neg hi]
      cases hl2 : sl[i]? with
      | none => rfl
      | some s0 =>
        cases s0 with
        | none =>
          show some (Value.int (I o i)) = some (Value.int (wr I o b x o i))
          rw [wr_ne (Or.inr (Ne.symm hi))]
        | some r => rfl
  simp only [heapop, h1, mkO, oC, hf, fok, and_true, h3, and_self, if_true]
  rw [← h4]
  rfl
theorem EV.ialoadI {len a b o n : Nat} {j : Int32} {jn : Nat} (hr : xlk M.rw pc = some (.iaload, len, a, b)) (hl : LAYO[o]? = some (.inl n)) (hj : j = nI jn) (hn : jn < n) (hn2 : n < 2 ^ 31) (ho : ¬ o = spc) (k : EV sc M d (pc + len) lv (.int (I o jn) :: st) (hp I J) Q) : EV sc M d pc lv (.int j :: .ref o :: st) (hp I J) Q := by
  refine EV.hop hr ?_ k
  subst hj
  have h1 := hp_at (I := I) (J := J) hl
  have h2 : (nI jn).toNatClampNeg = jn := nI_clamp (by omega)
  have h3 := nI_pos (n := jn) (by omega)
  simp only [heapop, if_neg ho, h1, mkO, oI, h2]
  rw [if_neg (fun z => z.elim h3 (fun z => by omega))]
theorem EV.laloadI {len a b o n : Nat} {j : Int32} {jn : Nat} (hr : xlk M.rw pc = some (.laload, len, a, b)) (hl : LAYO[o]? = some (.inr (.inl n))) (hj : j = nI jn) (hn : jn < n) (hn2 : n < 2 ^ 31) (k : EV sc M d (pc + len) lv (.long (J o jn) :: st) (hp I J) Q) : EV sc M d pc lv (.int j :: .ref o :: st) (hp I J) Q := by
  refine EV.hop hr ?_ k
  subst hj
  have h1 := hp_at (I := I) (J := J) hl
  have h2 : (nI jn).toNatClampNeg = jn := nI_clamp (by omega)
  have h3 := nI_pos (n := jn) (by omega)
  simp only [heapop, h1, mkO, oL, h2]
  rw [if_neg (fun z => z.elim h3 (fun z => by omega))]
theorem EV.iastoreI {len a b o n : Nat} {j x : Int32} {jn : Nat} (hr : xlk M.rw pc = some (.iastore, len, a, b)) (hl : LAYO[o]? = some (.inl n)) (hj : j = nI jn) (hn : jn < n) (hn2 : n < 2 ^ 31) (k : EV sc M d (pc + len) lv st (hp (wr I o jn x) J) Q) : EV sc M d pc lv (.int x :: .int j :: .ref o :: st) (hp I J) Q := by
  refine EV.hop hr ?_ k
  subst hj
  have h1 := hp_at (I := I) (J := J) hl
  have h2 : (nI jn).toNatClampNeg = jn := nI_clamp (by omega)
  have h3 := nI_pos (n := jn) (by omega)
  have h4 : (hp I J).set o (oI n (upd (I o) jn x)) = hp (wr I o jn x) J := by
    refine hp_set hl ?_ (fun o' h => wr_row h) (fun _ _ => rfl)
    show oI n _ = oI n (wr I o jn x o)
    refine congrArg (oI n) (funext fun i => ?_)
    unfold upd wr
    simp
  simp only [heapop, h1, mkO, oI, h2]
  rw [if_neg (fun z => z.elim h3 (fun z => by omega)), ← h4]
  rfl
theorem EV.lastoreI {len a b o n : Nat} {j : Int32} {x : Int64} {jn : Nat} (hr : xlk M.rw pc = some (.lastore, len, a, b)) (hl : LAYO[o]? = some (.inr (.inl n))) (hj : j = nI jn) (hn : jn < n) (hn2 : n < 2 ^ 31) (k : EV sc M d (pc + len) lv st (hp I (wr J o jn x)) Q) : EV sc M d pc lv (.long x :: .int j :: .ref o :: st) (hp I J) Q := by
  refine EV.hop hr ?_ k
  subst hj
  have h1 := hp_at (I := I) (J := J) hl
  have h2 : (nI jn).toNatClampNeg = jn := nI_clamp (by omega)
  have h3 := nI_pos (n := jn) (by omega)
  have h4 : (hp I J).set o (oL n (vp_updL (J o) jn x)) = hp I (wr J o jn x) := by
    refine hp_set hl ?_ (fun _ _ => rfl) (fun o' h => wr_row h)
    show oL n _ = oL n (wr J o jn x o)
    refine congrArg (oL n) (funext fun i => ?_)
    unfold vp_updL wr
    simp
  simp only [heapop, h1, mkO, oL, h2]
  rw [if_neg (fun z => z.elim h3 (fun z => by omega)), ← h4]
  rfl
theorem EV.alenI {len a b o n : Nat} (hr : xlk M.rw pc = some (.arraylength, len, a, b)) (hl : LAYO[o]? = some (.inl n)) (ho : ¬ o = spc) (k : EV sc M d (pc + len) lv (.int (nI n) :: st) (hp I J) Q) : EV sc M d pc lv (.ref o :: st) (hp I J) Q := by
  refine EV.hop hr ?_ k
  have h1 := hp_at (I := I) (J := J) hl
  simp only [heapop, if_neg ho, h1, mkO, oI]
  rfl
end EVM
section EVJ
variable {sc : Option (Nat × (Nat → Int32))} {M : MI} {d pc : Nat} {lv : LV} {st : List Value} {G : AH} {Q : (Option Value ⊕ Nat) → AH → Nat → Prop}
theorem EV.ite {p : Prop} [Decidable p] {a b : Nat} (kt : p → EV sc M d a lv st G Q) (kf : ¬ p → EV sc M d b lv st G Q) : EV sc M d (if p then a else b) lv st G Q := by
  by_cases h : p
  · rw [if_pos h]; exact kt h
  · rw [if_neg h]; exact kf h
/-- a jump on one number, on two: by the place in the kinds eq ne lt ge gt le -/
theorem EV.if0 {o : Int} {len a b : Nat} {x : Int32} {c : Jvm.ClassFile.Cond} {p : Prop} (hr : xlk M.rw pc = some (.ifCond c o, len, a, b)) (hp : p ↔ (match c with
    | .eq => x = 0
    | .ne => ¬ x = 0
    | .lt => x < 0
    | .ge => 0 ≤ x
    | .gt => 0 < x
    | .le => x ≤ 0)) (kt : p → EV sc M d a lv st G Q) (kf : ¬ p → EV sc M d (pc + 3) lv st G Q) : EV sc M d pc lv (.int x :: st) G Q := by
  cases c <;> exact EV.to hr rfl (EV.ite (fun h => kt (hp.mpr h)) (fun h => kf (fun z => h (hp.mp z))))
theorem EV.if2 {o : Int} {len a b : Nat} {x y : Int32} {c : Jvm.ClassFile.Cond} {p : Prop} (hr : xlk M.rw pc = some (.if_icmp c o, len, a, b)) (hp : p ↔ (match c with
    | .eq => x = y
    | .ne => ¬ x = y
    | .lt => x < y
    | .ge => y ≤ x
    | .gt => y < x
    | .le => x ≤ y)) (kt : p → EV sc M d a lv st G Q) (kf : ¬ p → EV sc M d (pc + 3) lv st G Q) : EV sc M d pc lv (.int y :: .int x :: st) G Q := by
  cases c <;> exact EV.to hr rfl (EV.ite (fun h => kt (hp.mpr h)) (fun h => kf (fun z => h (hp.mp z))))
end EVJ
theorem ev_loop {α : Type} {P : α → Prop} (μ : α → Nat) (h : ∀ x, (∀ y, μ y < μ x → P y) → P x) : ∀ x, P x := by
  have key : ∀ n x, μ x < n → P x := by
    intro n
    induction n with
    | zero => intro x hx; omega
    | succ n ih => intro x hx; exact h x (fun y hy => ih y (by omega))
  exact fun x => key (μ x + 1) x (Nat.lt_succ_self _)
