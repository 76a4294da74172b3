/-! On, over, counts: the model. -/
theorem sum_pc {κ : CT} {η : HS} (cb : CB κ) (hb : HB κ η) : sumN (fun i => (η.nt.testBit i).toNat) κ.ns = pc9 η.nt := by
  rw [sum_nt]
  have h := pcn_ns hb.nt (9 - κ.ns)
  have := cb.ns
  rw [show κ.ns + (9 - κ.ns) = 9 by omega] at h
  exact h.symm
/-- what counts, bird by bird -/
def cnM (κ : CT) (l : LW) (η : HS) : Nat → Nat
  | 0 => 2 ^ κ.ns - 1
  | b + 1 => andc (cnM κ l η b) (ovr κ l η b 0)
theorem andc_lt {a b n : Nat} (h : a < 2 ^ n) : andc a b < 2 ^ n := Nat.xor_lt_two_pow h (Nat.lt_of_le_of_lt Nat.and_le_left h)
theorem cnM_lt {κ : CT} {l : LW} {η : HS} : ∀ b, cnM κ l η b < 2 ^ κ.ns
  | 0 => Nat.sub_lt (Nat.two_pow_pos _) (by decide)
  | b + 1 => andc_lt (cnM_lt b)
def bdM (κ : CT) (l : LW) (η : HS) (m : Nat) : Nat := mk (fun b => onM κ l η b 0 m) κ.nb
theorem r_X11_birdsAt_0 : RW M_X11_birdsAt 0 (.iconst 0) 1 0 0 1 := ⟨rfl, rfl⟩
theorem r_X11_birdsAt_1 : RW M_X11_birdsAt 1 (.istore_n 2) 1 0 0 2 := ⟨rfl, rfl⟩
theorem r_X11_birdsAt_2 : RW M_X11_birdsAt 2 (.iconst 0) 1 0 0 3 := ⟨rfl, rfl⟩
theorem r_X11_birdsAt_3 : RW M_X11_birdsAt 3 (.istore_n 3) 1 0 0 4 := ⟨rfl, rfl⟩
theorem r_X11_birdsAt_4 : RW M_X11_birdsAt 4 (.iload_n 3) 1 0 0 5 := ⟨rfl, rfl⟩
theorem r_X11_birdsAt_5 : RW M_X11_birdsAt 5 (.aload_n 0) 1 0 0 6 := ⟨rfl, rfl⟩
theorem r_X11_birdsAt_6 : RW M_X11_birdsAt 6 (.getfield 172) 3 11 24 9 := ⟨rfl, rfl⟩
theorem r_X11_birdsAt_9 : RW M_X11_birdsAt 9 (.if_icmp .ge 29) 3 38 0 12 := ⟨rfl, rfl⟩
theorem r_X11_birdsAt_12 : RW M_X11_birdsAt 12 (.iload_n 2) 1 0 0 13 := ⟨rfl, rfl⟩
theorem r_X11_birdsAt_13 : RW M_X11_birdsAt 13 (.aload_n 0) 1 0 0 14 := ⟨rfl, rfl⟩
theorem r_X11_birdsAt_14 : RW M_X11_birdsAt 14 (.iload_n 3) 1 0 0 15 := ⟨rfl, rfl⟩
theorem r_X11_birdsAt_15 : RW M_X11_birdsAt 15 (.iconst 0) 1 0 0 16 := ⟨rfl, rfl⟩
theorem r_X11_birdsAt_16 : RW M_X11_birdsAt 16 (.iload_n 1) 1 0 0 17 := ⟨rfl, rfl⟩
theorem r_X11_birdsAt_17 : RW M_X11_birdsAt 17 (.invokevirtual 357) 3 218 0 20 := ⟨rfl, rfl⟩
theorem r_X11_birdsAt_20 : RW M_X11_birdsAt 20 (.ifCond .eq 9) 3 29 0 23 := ⟨rfl, rfl⟩
theorem r_X11_birdsAt_23 : RW M_X11_birdsAt 23 (.iconst 1) 1 0 0 24 := ⟨rfl, rfl⟩
theorem r_X11_birdsAt_24 : RW M_X11_birdsAt 24 (.iload_n 3) 1 0 0 25 := ⟨rfl, rfl⟩
theorem r_X11_birdsAt_25 : RW M_X11_birdsAt 25 (.ishl) 1 0 0 26 := ⟨rfl, rfl⟩
theorem r_X11_birdsAt_26 : RW M_X11_birdsAt 26 (.goto 4) 3 30 0 29 := ⟨rfl, rfl⟩
theorem r_X11_birdsAt_29 : RW M_X11_birdsAt 29 (.iconst 0) 1 0 0 30 := ⟨rfl, rfl⟩
theorem r_X11_birdsAt_30 : RW M_X11_birdsAt 30 (.ior) 1 0 0 31 := ⟨rfl, rfl⟩
theorem r_X11_birdsAt_31 : RW M_X11_birdsAt 31 (.istore_n 2) 1 0 0 32 := ⟨rfl, rfl⟩
theorem r_X11_birdsAt_32 : RW M_X11_birdsAt 32 (.iinc 3 1) 3 0 0 35 := ⟨rfl, rfl⟩
theorem r_X11_birdsAt_35 : RW M_X11_birdsAt 35 (.goto (-31)) 3 4 0 38 := ⟨rfl, rfl⟩
theorem r_X11_birdsAt_38 : RW M_X11_birdsAt 38 (.iload_n 2) 1 0 0 39 := ⟨rfl, rfl⟩
theorem r_X11_birdsAt_39 : RW M_X11_birdsAt 39 (.ireturn) 1 0 0 40 := ⟨rfl, rfl⟩
theorem r_X11_countsNow_0 : RW M_X11_countsNow 0 (.iconst 1) 1 0 0 1 := ⟨rfl, rfl⟩
theorem r_X11_countsNow_1 : RW M_X11_countsNow 1 (.aload_n 0) 1 0 0 2 := ⟨rfl, rfl⟩
theorem r_X11_countsNow_2 : RW M_X11_countsNow 2 (.getfield 166) 3 11 22 5 := ⟨rfl, rfl⟩
theorem r_X11_countsNow_5 : RW M_X11_countsNow 5 (.ishl) 1 0 0 6 := ⟨rfl, rfl⟩
theorem r_X11_countsNow_6 : RW M_X11_countsNow 6 (.iconst 1) 1 0 0 7 := ⟨rfl, rfl⟩
theorem r_X11_countsNow_7 : RW M_X11_countsNow 7 (.isub) 1 0 0 8 := ⟨rfl, rfl⟩
theorem r_X11_countsNow_8 : RW M_X11_countsNow 8 (.istore_n 1) 1 0 0 9 := ⟨rfl, rfl⟩
theorem r_X11_countsNow_9 : RW M_X11_countsNow 9 (.iconst 0) 1 0 0 10 := ⟨rfl, rfl⟩
theorem r_X11_countsNow_10 : RW M_X11_countsNow 10 (.istore_n 2) 1 0 0 11 := ⟨rfl, rfl⟩
theorem r_X11_countsNow_11 : RW M_X11_countsNow 11 (.iload_n 2) 1 0 0 12 := ⟨rfl, rfl⟩
theorem r_X11_countsNow_12 : RW M_X11_countsNow 12 (.aload_n 0) 1 0 0 13 := ⟨rfl, rfl⟩
theorem r_X11_countsNow_13 : RW M_X11_countsNow 13 (.getfield 172) 3 11 24 16 := ⟨rfl, rfl⟩
theorem r_X11_countsNow_16 : RW M_X11_countsNow 16 (.if_icmp .ge 20) 3 36 0 19 := ⟨rfl, rfl⟩
theorem r_X11_countsNow_19 : RW M_X11_countsNow 19 (.iload_n 1) 1 0 0 20 := ⟨rfl, rfl⟩
theorem r_X11_countsNow_20 : RW M_X11_countsNow 20 (.aload_n 0) 1 0 0 21 := ⟨rfl, rfl⟩
theorem r_X11_countsNow_21 : RW M_X11_countsNow 21 (.iload_n 2) 1 0 0 22 := ⟨rfl, rfl⟩
theorem r_X11_countsNow_22 : RW M_X11_countsNow 22 (.iconst 0) 1 0 0 23 := ⟨rfl, rfl⟩
theorem r_X11_countsNow_23 : RW M_X11_countsNow 23 (.invokevirtual 361) 3 219 0 26 := ⟨rfl, rfl⟩
theorem r_X11_countsNow_26 : RW M_X11_countsNow 26 (.iconst (-1)) 1 0 0 27 := ⟨rfl, rfl⟩
theorem r_X11_countsNow_27 : RW M_X11_countsNow 27 (.ixor) 1 0 0 28 := ⟨rfl, rfl⟩
theorem r_X11_countsNow_28 : RW M_X11_countsNow 28 (.iand) 1 0 0 29 := ⟨rfl, rfl⟩
theorem r_X11_countsNow_29 : RW M_X11_countsNow 29 (.istore_n 1) 1 0 0 30 := ⟨rfl, rfl⟩
theorem r_X11_countsNow_30 : RW M_X11_countsNow 30 (.iinc 2 1) 3 0 0 33 := ⟨rfl, rfl⟩
theorem r_X11_countsNow_33 : RW M_X11_countsNow 33 (.goto (-22)) 3 11 0 36 := ⟨rfl, rfl⟩
theorem r_X11_countsNow_36 : RW M_X11_countsNow 36 (.iload_n 1) 1 0 0 37 := ⟨rfl, rfl⟩
theorem r_X11_countsNow_37 : RW M_X11_countsNow 37 (.ireturn) 1 0 0 38 := ⟨rfl, rfl⟩
theorem r_X11_heardBy_0 : RW M_X11_heardBy 0 (.aload_n 0) 1 0 0 1 := ⟨rfl, rfl⟩
theorem r_X11_heardBy_1 : RW M_X11_heardBy 1 (.invokevirtual 370) 3 221 0 4 := ⟨rfl, rfl⟩
theorem r_X11_heardBy_4 : RW M_X11_heardBy 4 (.aload_n 0) 1 0 0 5 := ⟨rfl, rfl⟩
theorem r_X11_heardBy_5 : RW M_X11_heardBy 5 (.iload_n 1) 1 0 0 6 := ⟨rfl, rfl⟩
theorem r_X11_heardBy_6 : RW M_X11_heardBy 6 (.invokevirtual 373) 3 222 0 9 := ⟨rfl, rfl⟩
theorem r_X11_heardBy_9 : RW M_X11_heardBy 9 (.iand) 1 0 0 10 := ⟨rfl, rfl⟩
theorem r_X11_heardBy_10 : RW M_X11_heardBy 10 (.ireturn) 1 0 0 11 := ⟨rfl, rfl⟩
theorem r_X11_isOn_0 : RW M_X11_isOn 0 (.aload_n 0) 1 0 0 1 := ⟨rfl, rfl⟩
theorem r_X11_isOn_1 : RW M_X11_isOn 1 (.getfield 74) 3 11 43 4 := ⟨rfl, rfl⟩
theorem r_X11_isOn_4 : RW M_X11_isOn 4 (.bipush 18) 2 0 0 6 := ⟨rfl, rfl⟩
theorem r_X11_isOn_6 : RW M_X11_isOn 6 (.iload_n 1) 1 0 0 7 := ⟨rfl, rfl⟩
theorem r_X11_isOn_7 : RW M_X11_isOn 7 (.iadd) 1 0 0 8 := ⟨rfl, rfl⟩
theorem r_X11_isOn_8 : RW M_X11_isOn 8 (.iaload) 1 0 0 9 := ⟨rfl, rfl⟩
theorem r_X11_isOn_9 : RW M_X11_isOn 9 (.iload_n 2) 1 0 0 10 := ⟨rfl, rfl⟩
theorem r_X11_isOn_10 : RW M_X11_isOn 10 (.iadd) 1 0 0 11 := ⟨rfl, rfl⟩
theorem r_X11_isOn_11 : RW M_X11_isOn 11 (.invokestatic 351) 3 215 0 14 := ⟨rfl, rfl⟩
theorem r_X11_isOn_14 : RW M_X11_isOn 14 (.istore 4) 2 0 0 16 := ⟨rfl, rfl⟩
theorem r_X11_isOn_16 : RW M_X11_isOn 16 (.iload_n 3) 1 0 0 17 := ⟨rfl, rfl⟩
theorem r_X11_isOn_17 : RW M_X11_isOn 17 (.iload 4) 2 0 0 19 := ⟨rfl, rfl⟩
theorem r_X11_isOn_19 : RW M_X11_isOn 19 (.if_icmp .lt 32) 3 51 0 22 := ⟨rfl, rfl⟩
theorem r_X11_isOn_22 : RW M_X11_isOn 22 (.iload_n 3) 1 0 0 23 := ⟨rfl, rfl⟩
theorem r_X11_isOn_23 : RW M_X11_isOn 23 (.iload 4) 2 0 0 25 := ⟨rfl, rfl⟩
theorem r_X11_isOn_25 : RW M_X11_isOn 25 (.aload_n 0) 1 0 0 26 := ⟨rfl, rfl⟩
theorem r_X11_isOn_26 : RW M_X11_isOn 26 (.iload_n 1) 1 0 0 27 := ⟨rfl, rfl⟩
theorem r_X11_isOn_27 : RW M_X11_isOn 27 (.iload 4) 2 0 0 29 := ⟨rfl, rfl⟩
theorem r_X11_isOn_29 : RW M_X11_isOn 29 (.aload_n 0) 1 0 0 30 := ⟨rfl, rfl⟩
theorem r_X11_isOn_30 : RW M_X11_isOn 30 (.getfield 74) 3 11 43 33 := ⟨rfl, rfl⟩
theorem r_X11_isOn_33 : RW M_X11_isOn 33 (.bipush 22) 2 0 0 35 := ⟨rfl, rfl⟩
theorem r_X11_isOn_35 : RW M_X11_isOn 35 (.iload_n 1) 1 0 0 36 := ⟨rfl, rfl⟩
theorem r_X11_isOn_36 : RW M_X11_isOn 36 (.iadd) 1 0 0 37 := ⟨rfl, rfl⟩
theorem r_X11_isOn_37 : RW M_X11_isOn 37 (.iaload) 1 0 0 38 := ⟨rfl, rfl⟩
theorem r_X11_isOn_38 : RW M_X11_isOn 38 (.iload_n 2) 1 0 0 39 := ⟨rfl, rfl⟩
theorem r_X11_isOn_39 : RW M_X11_isOn 39 (.iadd) 1 0 0 40 := ⟨rfl, rfl⟩
theorem r_X11_isOn_40 : RW M_X11_isOn 40 (.invokevirtual 354) 3 217 0 43 := ⟨rfl, rfl⟩
theorem r_X11_isOn_43 : RW M_X11_isOn 43 (.iadd) 1 0 0 44 := ⟨rfl, rfl⟩
theorem r_X11_isOn_44 : RW M_X11_isOn 44 (.if_icmp .ge 7) 3 51 0 47 := ⟨rfl, rfl⟩
theorem r_X11_isOn_47 : RW M_X11_isOn 47 (.iconst 1) 1 0 0 48 := ⟨rfl, rfl⟩
theorem r_X11_isOn_48 : RW M_X11_isOn 48 (.goto 4) 3 52 0 51 := ⟨rfl, rfl⟩
theorem r_X11_isOn_51 : RW M_X11_isOn 51 (.iconst 0) 1 0 0 52 := ⟨rfl, rfl⟩
theorem r_X11_isOn_52 : RW M_X11_isOn 52 (.ireturn) 1 0 0 53 := ⟨rfl, rfl⟩
theorem r_X11_overBy_0 : RW M_X11_overBy 0 (.iconst 0) 1 0 0 1 := ⟨rfl, rfl⟩
theorem r_X11_overBy_1 : RW M_X11_overBy 1 (.istore_n 3) 1 0 0 2 := ⟨rfl, rfl⟩
theorem r_X11_overBy_2 : RW M_X11_overBy 2 (.iconst 0) 1 0 0 3 := ⟨rfl, rfl⟩
theorem r_X11_overBy_3 : RW M_X11_overBy 3 (.istore 4) 2 0 0 5 := ⟨rfl, rfl⟩
theorem r_X11_overBy_5 : RW M_X11_overBy 5 (.iload 4) 2 0 0 7 := ⟨rfl, rfl⟩
theorem r_X11_overBy_7 : RW M_X11_overBy 7 (.aload_n 0) 1 0 0 8 := ⟨rfl, rfl⟩
theorem r_X11_overBy_8 : RW M_X11_overBy 8 (.getfield 166) 3 11 22 11 := ⟨rfl, rfl⟩
theorem r_X11_overBy_11 : RW M_X11_overBy 11 (.if_icmp .ge 38) 3 49 0 14 := ⟨rfl, rfl⟩
theorem r_X11_overBy_14 : RW M_X11_overBy 14 (.iload_n 3) 1 0 0 15 := ⟨rfl, rfl⟩
theorem r_X11_overBy_15 : RW M_X11_overBy 15 (.aload_n 0) 1 0 0 16 := ⟨rfl, rfl⟩
theorem r_X11_overBy_16 : RW M_X11_overBy 16 (.iload_n 1) 1 0 0 17 := ⟨rfl, rfl⟩
theorem r_X11_overBy_17 : RW M_X11_overBy 17 (.iload_n 2) 1 0 0 18 := ⟨rfl, rfl⟩
theorem r_X11_overBy_18 : RW M_X11_overBy 18 (.aload_n 0) 1 0 0 19 := ⟨rfl, rfl⟩
theorem r_X11_overBy_19 : RW M_X11_overBy 19 (.getfield 74) 3 11 43 22 := ⟨rfl, rfl⟩
theorem r_X11_overBy_22 : RW M_X11_overBy 22 (.iconst 0) 1 0 0 23 := ⟨rfl, rfl⟩
theorem r_X11_overBy_23 : RW M_X11_overBy 23 (.iload 4) 2 0 0 25 := ⟨rfl, rfl⟩
theorem r_X11_overBy_25 : RW M_X11_overBy 25 (.iadd) 1 0 0 26 := ⟨rfl, rfl⟩
theorem r_X11_overBy_26 : RW M_X11_overBy 26 (.iaload) 1 0 0 27 := ⟨rfl, rfl⟩
theorem r_X11_overBy_27 : RW M_X11_overBy 27 (.invokevirtual 357) 3 218 0 30 := ⟨rfl, rfl⟩
theorem r_X11_overBy_30 : RW M_X11_overBy 30 (.ifCond .eq 10) 3 40 0 33 := ⟨rfl, rfl⟩
theorem r_X11_overBy_33 : RW M_X11_overBy 33 (.iconst 1) 1 0 0 34 := ⟨rfl, rfl⟩
theorem r_X11_overBy_34 : RW M_X11_overBy 34 (.iload 4) 2 0 0 36 := ⟨rfl, rfl⟩
theorem r_X11_overBy_36 : RW M_X11_overBy 36 (.ishl) 1 0 0 37 := ⟨rfl, rfl⟩
theorem r_X11_overBy_37 : RW M_X11_overBy 37 (.goto 4) 3 41 0 40 := ⟨rfl, rfl⟩
theorem r_X11_overBy_40 : RW M_X11_overBy 40 (.iconst 0) 1 0 0 41 := ⟨rfl, rfl⟩
theorem r_X11_overBy_41 : RW M_X11_overBy 41 (.ior) 1 0 0 42 := ⟨rfl, rfl⟩
theorem r_X11_overBy_42 : RW M_X11_overBy 42 (.istore_n 3) 1 0 0 43 := ⟨rfl, rfl⟩
theorem r_X11_overBy_43 : RW M_X11_overBy 43 (.iinc 4 1) 3 0 0 46 := ⟨rfl, rfl⟩
theorem r_X11_overBy_46 : RW M_X11_overBy 46 (.goto (-41)) 3 5 0 49 := ⟨rfl, rfl⟩
theorem r_X11_overBy_49 : RW M_X11_overBy 49 (.iload_n 3) 1 0 0 50 := ⟨rfl, rfl⟩
theorem r_X11_overBy_50 : RW M_X11_overBy 50 (.ireturn) 1 0 0 51 := ⟨rfl, rfl⟩
theorem r_X11_walkBy_0 : RW M_X11_walkBy 0 (.aload_n 0) 1 0 0 1 := ⟨rfl, rfl⟩
theorem r_X11_walkBy_1 : RW M_X11_walkBy 1 (.aload_n 0) 1 0 0 2 := ⟨rfl, rfl⟩
theorem r_X11_walkBy_2 : RW M_X11_walkBy 2 (.getfield 41) 3 11 16 5 := ⟨rfl, rfl⟩
theorem r_X11_walkBy_5 : RW M_X11_walkBy 5 (.iconst 2) 1 0 0 6 := ⟨rfl, rfl⟩
theorem r_X11_walkBy_6 : RW M_X11_walkBy 6 (.iload_n 1) 1 0 0 7 := ⟨rfl, rfl⟩
theorem r_X11_walkBy_7 : RW M_X11_walkBy 7 (.imul) 1 0 0 8 := ⟨rfl, rfl⟩
theorem r_X11_walkBy_8 : RW M_X11_walkBy 8 (.iconst 1) 1 0 0 9 := ⟨rfl, rfl⟩
theorem r_X11_walkBy_9 : RW M_X11_walkBy 9 (.iadd) 1 0 0 10 := ⟨rfl, rfl⟩
theorem r_X11_walkBy_10 : RW M_X11_walkBy 10 (.iaload) 1 0 0 11 := ⟨rfl, rfl⟩
theorem r_X11_walkBy_11 : RW M_X11_walkBy 11 (.iload_n 2) 1 0 0 12 := ⟨rfl, rfl⟩
theorem r_X11_walkBy_12 : RW M_X11_walkBy 12 (.aload_n 0) 1 0 0 13 := ⟨rfl, rfl⟩
theorem r_X11_walkBy_13 : RW M_X11_walkBy 13 (.bipush 26) 2 0 0 15 := ⟨rfl, rfl⟩
theorem r_X11_walkBy_15 : RW M_X11_walkBy 15 (.aload_n 0) 1 0 0 16 := ⟨rfl, rfl⟩
theorem r_X11_walkBy_16 : RW M_X11_walkBy 16 (.getfield 175) 3 11 25 19 := ⟨rfl, rfl⟩
theorem r_X11_walkBy_19 : RW M_X11_walkBy 19 (.invokevirtual 344) 3 214 0 22 := ⟨rfl, rfl⟩
theorem r_X11_walkBy_22 : RW M_X11_walkBy 22 (.iload_n 3) 1 0 0 23 := ⟨rfl, rfl⟩
theorem r_X11_walkBy_23 : RW M_X11_walkBy 23 (.aload_n 0) 1 0 0 24 := ⟨rfl, rfl⟩
theorem r_X11_walkBy_24 : RW M_X11_walkBy 24 (.bipush 9) 2 0 0 26 := ⟨rfl, rfl⟩
theorem r_X11_walkBy_26 : RW M_X11_walkBy 26 (.aload_n 0) 1 0 0 27 := ⟨rfl, rfl⟩
theorem r_X11_walkBy_27 : RW M_X11_walkBy 27 (.getfield 166) 3 11 22 30 := ⟨rfl, rfl⟩
theorem r_X11_walkBy_30 : RW M_X11_walkBy 30 (.invokevirtual 344) 3 214 0 33 := ⟨rfl, rfl⟩
theorem r_X11_walkBy_33 : RW M_X11_walkBy 33 (.iload_n 1) 1 0 0 34 := ⟨rfl, rfl⟩
theorem r_X11_walkBy_34 : RW M_X11_walkBy 34 (.invokevirtual 347) 3 216 0 37 := ⟨rfl, rfl⟩
theorem r_X11_walkBy_37 : RW M_X11_walkBy 37 (.ireturn) 1 0 0 38 := ⟨rfl, rfl⟩
theorem m_walkBy {d : Nat} {I : Nat → Nat → Int32} {J : Nat → Nat → Int64} {κ : CT} {l : LW} {η : HS} (mc : MC κ I) (cb : CB κ) (mr : MR 126 κ η I) (hb : HB κ η) (ml : ML l I) (lb : LB l) {b bg le : Nat} (h : b < κ.nb)  (hd : 5 ≤ d) : RI d 217 [.ref 106, .int (nI b), .int (nI bg), .int (nI le)] I J (fun v I' => v = nI (wlk κ l η b bg le) ∧ ∀ o, o ≠ 121 → o ≠ 122 → I' o = I o) := by
  refine RI.in (d0 := 4) hd mt_217 (Nat.le_of_ble_eq_true rfl) (fun d' hd' => ?_)
  have bns := cb.ns; have bnb := cb.nb; have bnc := cb.nc; have bnr := cb.nr
  have sp := sum_pc cb hb
  show EV none M_X11_walkBy d' 0 [(0, .ref 106), (1, .int (nI b)), (2, .int (nI bg)), (3, .int (nI le))] [] (hp I J) _
  refine EV.l (lv' := [(0, _), (1, _), (2, _), (3, _)]) r_X11_walkBy_0 rfl ?_
  refine EV.l (lv' := [(0, _), (1, _), (2, _), (3, _)]) r_X11_walkBy_1 rfl ?_
  refine EV.gR r_X11_walkBy_2 la_106 ?_
  refine EV.o r_X11_walkBy_5 (icN (2) (v := 2)) ?_
  refine EV.l (lv' := [(0, _), (1, _), (2, _), (3, _)]) r_X11_walkBy_6 rfl ?_
  refine EV.o r_X11_walkBy_7 imulN ?_
  refine EV.o r_X11_walkBy_8 (icN (1) (v := 1)) ?_
  refine EV.o r_X11_walkBy_9 iaddN ?_
  refine EV.iaN r_X11_walkBy_10 la_115 (mc.bs _ (by omega)) ?_
  refine EV.l (lv' := [(0, _), (1, _), (2, _), (3, _)]) r_X11_walkBy_11 rfl ?_
  refine EV.l (lv' := [(0, _), (1, _), (2, _), (3, _)]) r_X11_walkBy_12 rfl ?_
  refine EV.o r_X11_walkBy_13 (bpN (26) 26) ?_
  refine EV.l (lv' := [(0, _), (1, _), (2, _), (3, _)]) r_X11_walkBy_15 rfl ?_
  refine EV.getV r_X11_walkBy_16 la_106 (mc.nc) ?_
  refine EV.cv r_X11_walkBy_19 (aV2 mt_214 la_106) (m_sumOf (f := η.cr) (fun k hk => mr.cr k hk) (by omega) (by omega)) ?_
  refine EV.l (lv' := [(0, _), (1, _), (2, _), (3, _)]) r_X11_walkBy_22 rfl ?_
  refine EV.l (lv' := [(0, _), (1, _), (2, _), (3, _)]) r_X11_walkBy_23 rfl ?_
  refine EV.o r_X11_walkBy_24 (bpN (9) 9) ?_
  refine EV.l (lv' := [(0, _), (1, _), (2, _), (3, _)]) r_X11_walkBy_26 rfl ?_
  refine EV.getV r_X11_walkBy_27 la_106 (mc.ns) ?_
  refine EV.cv r_X11_walkBy_30 (aV2 mt_214 la_106) (m_sumOf (f := fun i => (η.nt.testBit i).toNat) (fun k hk => mr.nt k hk) (by omega) (by omega)) ?_
  refine EV.l (lv' := [(0, _), (1, _), (2, _), (3, _)]) r_X11_walkBy_33 rfl ?_
  refine EV.ci r_X11_walkBy_34 (aV6 mt_216 la_106) (m_walkOf ml lb (by omega)) (fun v I2 h => ?_)
  obtain ⟨e, fr⟩ := h
  subst e
  exact EV.ri r_X11_walkBy_37 (⟨by rw [sp]; rfl, fr⟩)
theorem m_isOn {d : Nat} {I : Nat → Nat → Int32} {J : Nat → Nat → Int64} {κ : CT} {l : LW} {η : HS} (mc : MC κ I) (cb : CB κ) (mr : MR 126 κ η I) (hb : HB κ η) (ml : ML l I) (lb : LB l) {b n m : Nat} (h : b < κ.nb) (hn : n < 100) (hm : m < 100000)  (hd : 6 ≤ d) : RI d 218 [.ref 106, .int (nI b), .int (nI n), .int (nI m)] I J (fun v I' => v = bI (onM κ l η b n m) ∧ ∀ o, o ≠ 121 → o ≠ 122 → I' o = I o) := by
  refine RI.in (d0 := 5) hd mt_218 (Nat.le_of_ble_eq_true rfl) (fun d' hd' => ?_)
  have bns := cb.ns; have bnb := cb.nb; have bnc := cb.nc; have bnr := cb.nr
  have b1 := hb.be b
  have fl : fm η b n ≤ 400 := Nat.min_le_left _ _
  have wl := wlk_le κ l η b (fm η b n) (η.le b + n)
  show EV none M_X11_isOn d' 0 [(0, .ref 106), (1, .int (nI b)), (2, .int (nI n)), (3, .int (nI m))] [] (hp I J) _
  refine EV.l (lv' := [(0, _), (1, _), (2, _), (3, _)]) r_X11_isOn_0 rfl ?_
  refine EV.gR r_X11_isOn_1 la_106 ?_
  refine EV.o r_X11_isOn_4 (bpN (18) 18) ?_
  refine EV.l (lv' := [(0, _), (1, _), (2, _), (3, _)]) r_X11_isOn_6 rfl ?_
  refine EV.o r_X11_isOn_7 iaddN ?_
  refine EV.iaN r_X11_isOn_8 la_126 (mr.be _ (by omega)) ?_
  refine EV.l (lv' := [(0, _), (1, _), (2, _), (3, _)]) r_X11_isOn_9 rfl ?_
  refine EV.o r_X11_isOn_10 iaddN ?_
  refine EV.cv r_X11_isOn_11 (aS1 mt_215) (m_held (by omega) (by omega)) ?_
  rw [show min 400 (η.be b + n) = fm η b n from rfl]
  refine EV.l (lv' := [(0, _), (1, _), (2, _), (3, _), (4, _)]) r_X11_isOn_14 rfl ?_
  refine EV.l (lv' := [(0, _), (1, _), (2, _), (3, _), (4, _)]) r_X11_isOn_16 rfl ?_
  refine EV.l (lv' := [(0, _), (1, _), (2, _), (3, _), (4, _)]) r_X11_isOn_17 rfl ?_
  refine EV.n2_lt r_X11_isOn_19 (fun h19 => ?_) (fun h19 => ?_)
  · -- 19 t
    refine EV.o r_X11_isOn_51 (icN (0) (v := 0)) ?_
    exact EV.ri r_X11_isOn_52 (⟨by first | (rw [show onM κ l η b n m = true from decide_eq_true (by omega)]; rfl) | (rw [show onM κ l η b n m = false from decide_eq_false (by omega)]; rfl), by first | exact fr | exact fun _ _ _ => rfl⟩)
  · -- 19 f
    refine EV.l (lv' := [(0, _), (1, _), (2, _), (3, _), (4, _)]) r_X11_isOn_22 rfl ?_
    refine EV.l (lv' := [(0, _), (1, _), (2, _), (3, _), (4, _)]) r_X11_isOn_23 rfl ?_
    refine EV.l (lv' := [(0, _), (1, _), (2, _), (3, _), (4, _)]) r_X11_isOn_25 rfl ?_
    refine EV.l (lv' := [(0, _), (1, _), (2, _), (3, _), (4, _)]) r_X11_isOn_26 rfl ?_
    refine EV.l (lv' := [(0, _), (1, _), (2, _), (3, _), (4, _)]) r_X11_isOn_27 rfl ?_
    refine EV.l (lv' := [(0, _), (1, _), (2, _), (3, _), (4, _)]) r_X11_isOn_29 rfl ?_
    refine EV.gR r_X11_isOn_30 la_106 ?_
    refine EV.o r_X11_isOn_33 (bpN (22) 22) ?_
    refine EV.l (lv' := [(0, _), (1, _), (2, _), (3, _), (4, _)]) r_X11_isOn_35 rfl ?_
    refine EV.o r_X11_isOn_36 iaddN ?_
    refine EV.iaN r_X11_isOn_37 la_126 (mr.le _ (by omega)) ?_
    refine EV.l (lv' := [(0, _), (1, _), (2, _), (3, _), (4, _)]) r_X11_isOn_38 rfl ?_
    refine EV.o r_X11_isOn_39 iaddN ?_
    refine EV.ci r_X11_isOn_40 (aV3 mt_217 la_106) (m_walkBy mc cb mr hb ml lb h (by omega)) (fun v I2 h2 => ?_)
    obtain ⟨e, fr⟩ := h2
    subst e
    refine EV.o r_X11_isOn_43 iaddN ?_
    refine EV.n2_ge r_X11_isOn_44 (fun h44 => ?_) (fun h44 => ?_)
    · -- 44 t
      refine EV.o r_X11_isOn_51 (icN (0) (v := 0)) ?_
      exact EV.ri r_X11_isOn_52 (⟨by first | (rw [show onM κ l η b n m = true from decide_eq_true (by omega)]; rfl) | (rw [show onM κ l η b n m = false from decide_eq_false (by omega)]; rfl), by first | exact fr | exact fun _ _ _ => rfl⟩)
    · -- 44 f
      refine EV.o r_X11_isOn_47 (icN (1) (v := 1)) ?_
      refine EV.g r_X11_isOn_48 ?_
      exact EV.ri r_X11_isOn_52 (⟨by first | (rw [show onM κ l η b n m = true from decide_eq_true (by omega)]; rfl) | (rw [show onM κ l η b n m = false from decide_eq_false (by omega)]; rfl), by first | exact fr | exact fun _ _ _ => rfl⟩)
theorem m_overBy {d : Nat} {I : Nat → Nat → Int32} {J : Nat → Nat → Int64} {κ : CT} {l : LW} {η : HS} (mc : MC κ I) (cb : CB κ) (mr : MR 126 κ η I) (hb : HB κ η) (ml : ML l I) (lb : LB l) {b n : Nat} (h : b < κ.nb) (hn : n < 100)  (hd : 7 ≤ d) : RI d 219 [.ref 106, .int (nI b), .int (nI n)] I J (fun v I' => v = nI (ovr κ l η b n) ∧ ∀ o, o ≠ 121 → o ≠ 122 → I' o = I o) := by
  refine RI.in (d0 := 6) hd mt_219 (Nat.le_of_ble_eq_true rfl) (fun d' hd' => ?_)
  have bns := cb.ns; have bnb := cb.nb; have bnc := cb.nc; have bnr := cb.nr
  show EV none M_X11_overBy d' 0 [(0, .ref 106), (1, .int (nI b)), (2, .int (nI n))] [] (hp I J) _
  refine EV.o r_X11_overBy_0 (icN (0) (v := 0)) ?_
  refine EV.l (lv' := [(0, _), (1, _), (2, _), (3, _)]) r_X11_overBy_1 rfl ?_
  refine EV.o r_X11_overBy_2 (icN (0) (v := 0)) ?_
  refine EV.l (lv' := [(0, _), (1, _), (2, _), (3, _), (4, _)]) r_X11_overBy_3 rfl ?_
  have L5 : ∀ y_ : Nat × (Nat → Nat → Int32), (fun y => (y.1 ≤ κ.ns ∧ ∀ o, o ≠ 121 → o ≠ 122 → y.2 o = I o) → EV none M_X11_overBy d' 5 [(0, .ref 106), (1, .int (nI b)), (2, .int (nI n)), (3, .int (nI (mk (fun i => onM κ l η b n (η.sa i)) y.1))), (4, .int (nI y.1))] [] (hp y.2 J) (QI J (fun v I' => v = nI (ovr κ l η b n) ∧ ∀ o, o ≠ 121 → o ≠ 122 → I' o = I o))) y_ := by
    refine ev_loop (fun y => κ.ns - y.1) ?_
    intro ⟨i, I1⟩ ih5 hx5
    try dsimp only at ih5
    try dsimp only at hx5
    try dsimp only
    have fr := hx5.2; have il := hx5.1
    have mc1 := MC.fr (I' := I1) mc (fr 106 (by decide) (by decide)) (fun x h1 h2 => fr x (by omega) (by omega))
    have mr1 := MR.fr (I' := I1) mr (fr 126 (by decide) (by decide))
    have ml1 := ML.fr (I' := I1) ml (fr 106 (by decide) (by decide)) (fr 119 (by decide) (by decide)) (fr 120 (by decide) (by decide))
    have b1 := hb.sa i
    refine EV.l (lv' := [(0, _), (1, _), (2, _), (3, _), (4, _)]) r_X11_overBy_5 rfl ?_
    refine EV.l (lv' := [(0, _), (1, _), (2, _), (3, _), (4, _)]) r_X11_overBy_7 rfl ?_
    refine EV.getV r_X11_overBy_8 la_106 (mc1.ns) ?_
    refine EV.n2_ge r_X11_overBy_11 (fun h11 => ?_) (fun h11 => ?_)
    · -- 11 t
      refine EV.l (lv' := [(0, _), (1, _), (2, _), (3, _), (4, _)]) r_X11_overBy_49 rfl ?_
      exact EV.ri r_X11_overBy_50 (⟨by rw [show i = κ.ns by omega]; rfl, fr⟩)
    · -- 11 f
      refine EV.l (lv' := [(0, _), (1, _), (2, _), (3, _), (4, _)]) r_X11_overBy_14 rfl ?_
      refine EV.l (lv' := [(0, _), (1, _), (2, _), (3, _), (4, _)]) r_X11_overBy_15 rfl ?_
      refine EV.l (lv' := [(0, _), (1, _), (2, _), (3, _), (4, _)]) r_X11_overBy_16 rfl ?_
      refine EV.l (lv' := [(0, _), (1, _), (2, _), (3, _), (4, _)]) r_X11_overBy_17 rfl ?_
      refine EV.l (lv' := [(0, _), (1, _), (2, _), (3, _), (4, _)]) r_X11_overBy_18 rfl ?_
      refine EV.gR r_X11_overBy_19 la_106 ?_
      refine EV.o r_X11_overBy_22 (icN (0) (v := 0)) ?_
      refine EV.l (lv' := [(0, _), (1, _), (2, _), (3, _), (4, _)]) r_X11_overBy_23 rfl ?_
      refine EV.o r_X11_overBy_25 iaddN ?_
      refine EV.iaN r_X11_overBy_26 la_126 (mr1.sa _ (by omega)) ?_
      refine EV.ci r_X11_overBy_27 (aV3 mt_218 la_106) (m_isOn mc1 cb mr1 hb ml1 lb h hn (by omega) (by omega)) (fun v I2 h2 => ?_)
      obtain ⟨e, fr2⟩ := h2
      subst e
      refine EV.b0_eq r_X11_overBy_30 (fun h30 => ?_) (fun h30 => ?_)
      · -- 30 t
        refine EV.o r_X11_overBy_40 (icN (0) (v := 0)) ?_
        refine EV.o r_X11_overBy_41 iorN ?_
        refine EV.l (lv' := [(0, _), (1, _), (2, _), (3, _), (4, _)]) r_X11_overBy_42 rfl ?_
        refine EV.l (lv' := [(0, _), (1, _), (2, _), (3, _), (4, _)]) r_X11_overBy_43 rfl ?_
        rw [inc_nI]
        refine EV.g r_X11_overBy_46 ?_
        refine EV.sub ?_ rfl ?_ (ih5 (i + 1, I2) ?_ ?_)
        · (try dsimp only) <;> (first | rw [mk_t (p := fun i => onM κ l η b n (η.sa i)) (by assumption)] | rw [mk_z (p := fun i => onM κ l η b n (η.sa i)) (by assumption)])
        · (try dsimp only) <;> (rfl)
        · (try dsimp only) <;> (omega)
        · (try dsimp only) <;> (exact ⟨by omega, fun o h1 h2 => (fr2 o h1 h2).trans (fr o h1 h2)⟩)
      · -- 30 f
        refine EV.o r_X11_overBy_33 (icN (1) (v := 1)) ?_
        refine EV.l (lv' := [(0, _), (1, _), (2, _), (3, _), (4, _)]) r_X11_overBy_34 rfl ?_
        refine EV.o r_X11_overBy_36 (ishl1) ?_
        refine EV.g r_X11_overBy_37 ?_
        refine EV.o r_X11_overBy_41 iorN ?_
        refine EV.l (lv' := [(0, _), (1, _), (2, _), (3, _), (4, _)]) r_X11_overBy_42 rfl ?_
        refine EV.l (lv' := [(0, _), (1, _), (2, _), (3, _), (4, _)]) r_X11_overBy_43 rfl ?_
        rw [inc_nI]
        refine EV.g r_X11_overBy_46 ?_
        refine EV.sub ?_ rfl ?_ (ih5 (i + 1, I2) ?_ ?_)
        · (try dsimp only) <;> (first | rw [mk_t (p := fun i => onM κ l η b n (η.sa i)) (by assumption)] | rw [mk_z (p := fun i => onM κ l η b n (η.sa i)) (by assumption)])
        · (try dsimp only) <;> (rfl)
        · (try dsimp only) <;> (omega)
        · (try dsimp only) <;> (exact ⟨by omega, fun o h1 h2 => (fr2 o h1 h2).trans (fr o h1 h2)⟩)
  have h0 := L5 ((0, I))
  try dsimp only at h0
  refine EV.sub ?_ rfl ?_ (h0 ?_)
  · (try dsimp only) <;> (rfl)
  · (try dsimp only) <;> (rfl)
  · (try dsimp only) <;> (exact ⟨Nat.zero_le _, fun _ _ _ => rfl⟩)
theorem m_birdsAt {d : Nat} {I : Nat → Nat → Int32} {J : Nat → Nat → Int64} {κ : CT} {l : LW} {η : HS} (mc : MC κ I) (cb : CB κ) (mr : MR 126 κ η I) (hb : HB κ η) (ml : ML l I) (lb : LB l) {m : Nat} (hm : m < 100000)  (hd : 7 ≤ d) : RI d 220 [.ref 106, .int (nI m)] I J (fun v I' => v = nI (bdM κ l η m) ∧ ∀ o, o ≠ 121 → o ≠ 122 → I' o = I o) := by
  refine RI.in (d0 := 6) hd mt_220 (Nat.le_of_ble_eq_true rfl) (fun d' hd' => ?_)
  have bns := cb.ns; have bnb := cb.nb; have bnc := cb.nc; have bnr := cb.nr
  show EV none M_X11_birdsAt d' 0 [(0, .ref 106), (1, .int (nI m))] [] (hp I J) _
  refine EV.o r_X11_birdsAt_0 (icN (0) (v := 0)) ?_
  refine EV.l (lv' := [(0, _), (1, _), (2, _)]) r_X11_birdsAt_1 rfl ?_
  refine EV.o r_X11_birdsAt_2 (icN (0) (v := 0)) ?_
  refine EV.l (lv' := [(0, _), (1, _), (2, _), (3, _)]) r_X11_birdsAt_3 rfl ?_
  have L4 : ∀ y_ : Nat × (Nat → Nat → Int32), (fun y => (y.1 ≤ κ.nb ∧ ∀ o, o ≠ 121 → o ≠ 122 → y.2 o = I o) → EV none M_X11_birdsAt d' 4 [(0, .ref 106), (1, .int (nI m)), (2, .int (nI (mk (fun b => onM κ l η b 0 m) y.1))), (3, .int (nI y.1))] [] (hp y.2 J) (QI J (fun v I' => v = nI (bdM κ l η m) ∧ ∀ o, o ≠ 121 → o ≠ 122 → I' o = I o))) y_ := by
    refine ev_loop (fun y => κ.nb - y.1) ?_
    intro ⟨i, I1⟩ ih4 hx4
    try dsimp only at ih4
    try dsimp only at hx4
    try dsimp only
    have fr := hx4.2; have il := hx4.1
    have mc1 := MC.fr (I' := I1) mc (fr 106 (by decide) (by decide)) (fun x h1 h2 => fr x (by omega) (by omega))
    have mr1 := MR.fr (I' := I1) mr (fr 126 (by decide) (by decide))
    have ml1 := ML.fr (I' := I1) ml (fr 106 (by decide) (by decide)) (fr 119 (by decide) (by decide)) (fr 120 (by decide) (by decide))
    refine EV.l (lv' := [(0, _), (1, _), (2, _), (3, _)]) r_X11_birdsAt_4 rfl ?_
    refine EV.l (lv' := [(0, _), (1, _), (2, _), (3, _)]) r_X11_birdsAt_5 rfl ?_
    refine EV.getV r_X11_birdsAt_6 la_106 (mc1.nb) ?_
    refine EV.n2_ge r_X11_birdsAt_9 (fun h9 => ?_) (fun h9 => ?_)
    · -- 9 t
      refine EV.l (lv' := [(0, _), (1, _), (2, _), (3, _)]) r_X11_birdsAt_38 rfl ?_
      exact EV.ri r_X11_birdsAt_39 (⟨by rw [show i = κ.nb by omega]; rfl, fr⟩)
    · -- 9 f
      refine EV.l (lv' := [(0, _), (1, _), (2, _), (3, _)]) r_X11_birdsAt_12 rfl ?_
      refine EV.l (lv' := [(0, _), (1, _), (2, _), (3, _)]) r_X11_birdsAt_13 rfl ?_
      refine EV.l (lv' := [(0, _), (1, _), (2, _), (3, _)]) r_X11_birdsAt_14 rfl ?_
      refine EV.o r_X11_birdsAt_15 (icN (0) (v := 0)) ?_
      refine EV.l (lv' := [(0, _), (1, _), (2, _), (3, _)]) r_X11_birdsAt_16 rfl ?_
      refine EV.ci r_X11_birdsAt_17 (aV3 mt_218 la_106) (m_isOn mc1 cb mr1 hb ml1 lb (by omega) (by omega) hm (by omega)) (fun v I2 h2 => ?_)
      obtain ⟨e, fr2⟩ := h2
      subst e
      refine EV.b0_eq r_X11_birdsAt_20 (fun h20 => ?_) (fun h20 => ?_)
      · -- 20 t
        refine EV.o r_X11_birdsAt_29 (icN (0) (v := 0)) ?_
        refine EV.o r_X11_birdsAt_30 iorN ?_
        refine EV.l (lv' := [(0, _), (1, _), (2, _), (3, _)]) r_X11_birdsAt_31 rfl ?_
        refine EV.l (lv' := [(0, _), (1, _), (2, _), (3, _)]) r_X11_birdsAt_32 rfl ?_
        rw [inc_nI]
        refine EV.g r_X11_birdsAt_35 ?_
        refine EV.sub ?_ rfl ?_ (ih4 (i + 1, I2) ?_ ?_)
        · (try dsimp only) <;> (first | rw [mk_t (p := fun b => onM κ l η b 0 m) (by assumption)] | rw [mk_z (p := fun b => onM κ l η b 0 m) (by assumption)])
        · (try dsimp only) <;> (rfl)
        · (try dsimp only) <;> (omega)
        · (try dsimp only) <;> (exact ⟨by omega, fun o h1 h2 => (fr2 o h1 h2).trans (fr o h1 h2)⟩)
      · -- 20 f
        refine EV.o r_X11_birdsAt_23 (icN (1) (v := 1)) ?_
        refine EV.l (lv' := [(0, _), (1, _), (2, _), (3, _)]) r_X11_birdsAt_24 rfl ?_
        refine EV.o r_X11_birdsAt_25 (ishl1) ?_
        refine EV.g r_X11_birdsAt_26 ?_
        refine EV.o r_X11_birdsAt_30 iorN ?_
        refine EV.l (lv' := [(0, _), (1, _), (2, _), (3, _)]) r_X11_birdsAt_31 rfl ?_
        refine EV.l (lv' := [(0, _), (1, _), (2, _), (3, _)]) r_X11_birdsAt_32 rfl ?_
        rw [inc_nI]
        refine EV.g r_X11_birdsAt_35 ?_
        refine EV.sub ?_ rfl ?_ (ih4 (i + 1, I2) ?_ ?_)
        · (try dsimp only) <;> (first | rw [mk_t (p := fun b => onM κ l η b 0 m) (by assumption)] | rw [mk_z (p := fun b => onM κ l η b 0 m) (by assumption)])
        · (try dsimp only) <;> (rfl)
        · (try dsimp only) <;> (omega)
        · (try dsimp only) <;> (exact ⟨by omega, fun o h1 h2 => (fr2 o h1 h2).trans (fr o h1 h2)⟩)
  have h0 := L4 ((0, I))
  try dsimp only at h0
  refine EV.sub ?_ rfl ?_ (h0 ?_)
  · (try dsimp only) <;> (rfl)
  · (try dsimp only) <;> (rfl)
  · (try dsimp only) <;> (exact ⟨Nat.zero_le _, fun _ _ _ => rfl⟩)
theorem m_countsNow {d : Nat} {I : Nat → Nat → Int32} {J : Nat → Nat → Int64} {κ : CT} {l : LW} {η : HS} (mc : MC κ I) (cb : CB κ) (mr : MR 126 κ η I) (hb : HB κ η) (ml : ML l I) (lb : LB l)  (hd : 8 ≤ d) : RI d 221 [.ref 106] I J (fun v I' => v = nI (cnM κ l η κ.nb) ∧ ∀ o, o ≠ 121 → o ≠ 122 → I' o = I o) := by
  refine RI.in (d0 := 7) hd mt_221 (Nat.le_of_ble_eq_true rfl) (fun d' hd' => ?_)
  have bns := cb.ns; have bnb := cb.nb; have bnc := cb.nc; have bnr := cb.nr
  have p0 := Nat.two_pow_pos κ.ns
  show EV none M_X11_countsNow d' 0 [(0, .ref 106)] [] (hp I J) _
  refine EV.o r_X11_countsNow_0 (icN (1) (v := 1)) ?_
  refine EV.l (lv' := [(0, _)]) r_X11_countsNow_1 rfl ?_
  refine EV.getV r_X11_countsNow_2 la_106 (mc.ns) ?_
  refine EV.o r_X11_countsNow_5 (ishl1) ?_
  refine EV.o r_X11_countsNow_6 (icN (1) (v := 1)) ?_
  refine EV.o r_X11_countsNow_7 (isubN) ?_
  refine EV.l (lv' := [(0, _), (1, _)]) r_X11_countsNow_8 rfl ?_
  refine EV.o r_X11_countsNow_9 (icN (0) (v := 0)) ?_
  refine EV.l (lv' := [(0, _), (1, _), (2, _)]) r_X11_countsNow_10 rfl ?_
  have L11 : ∀ y_ : Nat × (Nat → Nat → Int32), (fun y => (y.1 ≤ κ.nb ∧ ∀ o, o ≠ 121 → o ≠ 122 → y.2 o = I o) → EV none M_X11_countsNow d' 11 [(0, .ref 106), (1, .int (nI (cnM κ l η y.1))), (2, .int (nI y.1))] [] (hp y.2 J) (QI J (fun v I' => v = nI (cnM κ l η κ.nb) ∧ ∀ o, o ≠ 121 → o ≠ 122 → I' o = I o))) y_ := by
    refine ev_loop (fun y => κ.nb - y.1) ?_
    intro ⟨i, I1⟩ ih11 hx11
    try dsimp only at ih11
    try dsimp only at hx11
    try dsimp only
    have fr := hx11.2; have il := hx11.1
    have mc1 := MC.fr (I' := I1) mc (fr 106 (by decide) (by decide)) (fun x h1 h2 => fr x (by omega) (by omega))
    have mr1 := MR.fr (I' := I1) mr (fr 126 (by decide) (by decide))
    have ml1 := ML.fr (I' := I1) ml (fr 106 (by decide) (by decide)) (fr 119 (by decide) (by decide)) (fr 120 (by decide) (by decide))
    refine EV.l (lv' := [(0, _), (1, _), (2, _)]) r_X11_countsNow_11 rfl ?_
    refine EV.l (lv' := [(0, _), (1, _), (2, _)]) r_X11_countsNow_12 rfl ?_
    refine EV.getV r_X11_countsNow_13 la_106 (mc1.nb) ?_
    refine EV.n2_ge r_X11_countsNow_16 (fun h16 => ?_) (fun h16 => ?_)
    · -- 16 t
      refine EV.l (lv' := [(0, _), (1, _), (2, _)]) r_X11_countsNow_36 rfl ?_
      exact EV.ri r_X11_countsNow_37 (⟨by rw [show i = κ.nb by omega], fr⟩)
    · -- 16 f
      refine EV.l (lv' := [(0, _), (1, _), (2, _)]) r_X11_countsNow_19 rfl ?_
      refine EV.l (lv' := [(0, _), (1, _), (2, _)]) r_X11_countsNow_20 rfl ?_
      refine EV.l (lv' := [(0, _), (1, _), (2, _)]) r_X11_countsNow_21 rfl ?_
      refine EV.o r_X11_countsNow_22 (icN (0) (v := 0)) ?_
      refine EV.ci r_X11_countsNow_23 (aV2 mt_219 la_106) (m_overBy mc1 cb mr1 hb ml1 lb (by omega) (by omega) (by omega)) (fun v I2 h2 => ?_)
      obtain ⟨e, fr2⟩ := h2
      subst e
      refine EV.o r_X11_countsNow_26 (icZ (-1)) ?_
      refine EV.o r_X11_countsNow_27 inotN ?_
      refine EV.o r_X11_countsNow_28 iandC ?_
      refine EV.l (lv' := [(0, _), (1, _), (2, _)]) r_X11_countsNow_29 rfl ?_
      refine EV.l (lv' := [(0, _), (1, _), (2, _)]) r_X11_countsNow_30 rfl ?_
      rw [inc_nI]
      refine EV.g r_X11_countsNow_33 ?_
      refine EV.sub ?_ rfl ?_ (ih11 (i + 1, I2) ?_ ?_)
      · (try dsimp only) <;> (rfl)
      · (try dsimp only) <;> (rfl)
      · (try dsimp only) <;> (omega)
      · (try dsimp only) <;> (exact ⟨by omega, fun o h1 h2 => (fr2 o h1 h2).trans (fr o h1 h2)⟩)
  have h0 := L11 ((0, I))
  try dsimp only at h0
  refine EV.sub ?_ rfl ?_ (h0 ?_)
  · (try dsimp only) <;> (rfl)
  · (try dsimp only) <;> (rfl)
  · (try dsimp only) <;> (exact ⟨Nat.zero_le _, fun _ _ _ => rfl⟩)
theorem m_heardBy {d : Nat} {I : Nat → Nat → Int32} {J : Nat → Nat → Int64} {κ : CT} {l : LW} {η : HS} (mc : MC κ I) (cb : CB κ) (mr : MR 126 κ η I) (hb : HB κ η) (ml : ML l I) (lb : LB l) {m : Nat} (hm : m < 100000)  (hd : 9 ≤ d) : RI d 226 [.ref 106, .int (nI m)] I J (fun v I' => v = nI (cnM κ l η κ.nb &&& mk (fun i => decide (η.sa i ≤ m)) κ.ns) ∧ ∀ o, o ≠ 121 → o ≠ 122 → I' o = I o) := by
  refine RI.in (d0 := 8) hd mt_226 (Nat.le_of_ble_eq_true rfl) (fun d' hd' => ?_)
  have bns := cb.ns; have bnb := cb.nb; have bnc := cb.nc; have bnr := cb.nr
  show EV none M_X11_heardBy d' 0 [(0, .ref 106), (1, .int (nI m))] [] (hp I J) _
  refine EV.l (lv' := [(0, _), (1, _)]) r_X11_heardBy_0 rfl ?_
  refine EV.ci r_X11_heardBy_1 (aV0 mt_221 la_106) (m_countsNow mc cb mr hb ml lb (by omega)) (fun v I2 h2 => ?_)
  obtain ⟨e, fr2⟩ := h2
  subst e
  have mc2 := MC.fr (I' := I2) mc (fr2 106 (by decide) (by decide)) (fun x h1 h2 => fr2 x (by omega) (by omega))
  have mr2 := MR.fr (I' := I2) mr (fr2 126 (by decide) (by decide))
  have ml2 := ML.fr (I' := I2) ml (fr2 106 (by decide) (by decide)) (fr2 119 (by decide) (by decide)) (fr2 120 (by decide) (by decide))
  refine EV.l (lv' := [(0, _), (1, _)]) r_X11_heardBy_4 rfl ?_
  refine EV.l (lv' := [(0, _), (1, _)]) r_X11_heardBy_5 rfl ?_
  refine EV.cv r_X11_heardBy_6 (aV1 mt_222 la_106) (m_saidBy mc2 cb mr2 hb hm (by omega)) ?_
  refine EV.o r_X11_heardBy_9 iandN ?_
  exact EV.ri r_X11_heardBy_10 (⟨rfl, fr2⟩)
