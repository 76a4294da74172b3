/-! The law's ways to a method that may refuse. -/
theorem r_L_at_0 : RW M_L_at 0 (.aload_n 3) 1 0 0 1 := ⟨rfl, rfl⟩
theorem r_L_at_1 : RW M_L_at 1 (.iconst 0) 1 0 0 2 := ⟨rfl, rfl⟩
theorem r_L_at_2 : RW M_L_at 2 (.aload_n 0) 1 0 0 3 := ⟨rfl, rfl⟩
theorem r_L_at_3 : RW M_L_at 3 (.iload_n 1) 1 0 0 4 := ⟨rfl, rfl⟩
theorem r_L_at_4 : RW M_L_at 4 (.iload_n 2) 1 0 0 5 := ⟨rfl, rfl⟩
theorem r_L_at_5 : RW M_L_at 5 (.invokevirtual 43) 3 126 0 8 := ⟨rfl, rfl⟩
theorem r_L_at_8 : RW M_L_at 8 (.i2l) 1 0 0 9 := ⟨rfl, rfl⟩
theorem r_L_at_9 : RW M_L_at 9 (.lastore) 1 0 0 10 := ⟨rfl, rfl⟩
theorem r_L_at_10 : RW M_L_at 10 (.goto 7) 3 17 0 13 := ⟨rfl, rfl⟩
theorem r_L_at_15 : RW M_L_at 15 (.iconst 1) 1 0 0 16 := ⟨rfl, rfl⟩
theorem r_L_at_16 : RW M_L_at 16 (.ireturn) 1 0 0 17 := ⟨rfl, rfl⟩
theorem r_L_at_17 : RW M_L_at 17 (.iconst 0) 1 0 0 18 := ⟨rfl, rfl⟩
theorem r_L_at_18 : RW M_L_at 18 (.ireturn) 1 0 0 19 := ⟨rfl, rfl⟩
theorem r_L_bird_0 : RW M_L_bird 0 (.aload_n 3) 1 0 0 1 := ⟨rfl, rfl⟩
theorem r_L_bird_1 : RW M_L_bird 1 (.iconst 0) 1 0 0 2 := ⟨rfl, rfl⟩
theorem r_L_bird_2 : RW M_L_bird 2 (.aload_n 0) 1 0 0 3 := ⟨rfl, rfl⟩
theorem r_L_bird_3 : RW M_L_bird 3 (.iload_n 1) 1 0 0 4 := ⟨rfl, rfl⟩
theorem r_L_bird_4 : RW M_L_bird 4 (.iload_n 2) 1 0 0 5 := ⟨rfl, rfl⟩
theorem r_L_bird_5 : RW M_L_bird 5 (.invokevirtual 33) 3 123 0 8 := ⟨rfl, rfl⟩
theorem r_L_bird_8 : RW M_L_bird 8 (.i2l) 1 0 0 9 := ⟨rfl, rfl⟩
theorem r_L_bird_9 : RW M_L_bird 9 (.lastore) 1 0 0 10 := ⟨rfl, rfl⟩
theorem r_L_bird_10 : RW M_L_bird 10 (.goto 11) 3 21 0 13 := ⟨rfl, rfl⟩
theorem r_L_bird_15 : RW M_L_bird 15 (.iconst 1) 1 0 0 16 := ⟨rfl, rfl⟩
theorem r_L_bird_16 : RW M_L_bird 16 (.ireturn) 1 0 0 17 := ⟨rfl, rfl⟩
theorem r_L_bird_19 : RW M_L_bird 19 (.iconst 2) 1 0 0 20 := ⟨rfl, rfl⟩
theorem r_L_bird_20 : RW M_L_bird 20 (.ireturn) 1 0 0 21 := ⟨rfl, rfl⟩
theorem r_L_bird_21 : RW M_L_bird 21 (.iconst 0) 1 0 0 22 := ⟨rfl, rfl⟩
theorem r_L_bird_22 : RW M_L_bird 22 (.ireturn) 1 0 0 23 := ⟨rfl, rfl⟩
theorem r_L_book_0 : RW M_L_book 0 (.aload_n 2) 1 0 0 1 := ⟨rfl, rfl⟩
theorem r_L_book_1 : RW M_L_book 1 (.iconst 0) 1 0 0 2 := ⟨rfl, rfl⟩
theorem r_L_book_2 : RW M_L_book 2 (.aload_n 0) 1 0 0 3 := ⟨rfl, rfl⟩
theorem r_L_book_3 : RW M_L_book 3 (.iload_n 1) 1 0 0 4 := ⟨rfl, rfl⟩
theorem r_L_book_4 : RW M_L_book 4 (.invokevirtual 21) 3 117 0 7 := ⟨rfl, rfl⟩
theorem r_L_book_7 : RW M_L_book 7 (.i2l) 1 0 0 8 := ⟨rfl, rfl⟩
theorem r_L_book_8 : RW M_L_book 8 (.lastore) 1 0 0 9 := ⟨rfl, rfl⟩
theorem r_L_book_9 : RW M_L_book 9 (.goto 6) 3 15 0 12 := ⟨rfl, rfl⟩
theorem r_L_book_13 : RW M_L_book 13 (.iconst 1) 1 0 0 14 := ⟨rfl, rfl⟩
theorem r_L_book_14 : RW M_L_book 14 (.ireturn) 1 0 0 15 := ⟨rfl, rfl⟩
theorem r_L_book_15 : RW M_L_book 15 (.iconst 0) 1 0 0 16 := ⟨rfl, rfl⟩
theorem r_L_book_16 : RW M_L_book 16 (.ireturn) 1 0 0 17 := ⟨rfl, rfl⟩
theorem r_L_counsel_0 : RW M_L_counsel 0 (.aload_n 3) 1 0 0 1 := ⟨rfl, rfl⟩
theorem r_L_counsel_1 : RW M_L_counsel 1 (.iconst 0) 1 0 0 2 := ⟨rfl, rfl⟩
theorem r_L_counsel_2 : RW M_L_counsel 2 (.aload_n 0) 1 0 0 3 := ⟨rfl, rfl⟩
theorem r_L_counsel_3 : RW M_L_counsel 3 (.iload_n 1) 1 0 0 4 := ⟨rfl, rfl⟩
theorem r_L_counsel_4 : RW M_L_counsel 4 (.iload_n 2) 1 0 0 5 := ⟨rfl, rfl⟩
theorem r_L_counsel_5 : RW M_L_counsel 5 (.invokevirtual 36) 3 124 0 8 := ⟨rfl, rfl⟩
theorem r_L_counsel_8 : RW M_L_counsel 8 (.i2l) 1 0 0 9 := ⟨rfl, rfl⟩
theorem r_L_counsel_9 : RW M_L_counsel 9 (.lastore) 1 0 0 10 := ⟨rfl, rfl⟩
theorem r_L_counsel_10 : RW M_L_counsel 10 (.goto 11) 3 21 0 13 := ⟨rfl, rfl⟩
theorem r_L_counsel_15 : RW M_L_counsel 15 (.iconst 1) 1 0 0 16 := ⟨rfl, rfl⟩
theorem r_L_counsel_16 : RW M_L_counsel 16 (.ireturn) 1 0 0 17 := ⟨rfl, rfl⟩
theorem r_L_counsel_19 : RW M_L_counsel 19 (.iconst 2) 1 0 0 20 := ⟨rfl, rfl⟩
theorem r_L_counsel_20 : RW M_L_counsel 20 (.ireturn) 1 0 0 21 := ⟨rfl, rfl⟩
theorem r_L_counsel_21 : RW M_L_counsel 21 (.iconst 0) 1 0 0 22 := ⟨rfl, rfl⟩
theorem r_L_counsel_22 : RW M_L_counsel 22 (.ireturn) 1 0 0 23 := ⟨rfl, rfl⟩
theorem r_L_court_0 : RW M_L_court 0 (.aload_n 2) 1 0 0 1 := ⟨rfl, rfl⟩
theorem r_L_court_1 : RW M_L_court 1 (.iconst 0) 1 0 0 2 := ⟨rfl, rfl⟩
theorem r_L_court_2 : RW M_L_court 2 (.aload_n 0) 1 0 0 3 := ⟨rfl, rfl⟩
theorem r_L_court_3 : RW M_L_court 3 (.iload_n 1) 1 0 0 4 := ⟨rfl, rfl⟩
theorem r_L_court_4 : RW M_L_court 4 (.invokevirtual 7) 3 114 0 7 := ⟨rfl, rfl⟩
theorem r_L_court_7 : RW M_L_court 7 (.i2l) 1 0 0 8 := ⟨rfl, rfl⟩
theorem r_L_court_8 : RW M_L_court 8 (.lastore) 1 0 0 9 := ⟨rfl, rfl⟩
theorem r_L_court_9 : RW M_L_court 9 (.goto 6) 3 15 0 12 := ⟨rfl, rfl⟩
theorem r_L_court_13 : RW M_L_court 13 (.iconst 1) 1 0 0 14 := ⟨rfl, rfl⟩
theorem r_L_court_14 : RW M_L_court 14 (.ireturn) 1 0 0 15 := ⟨rfl, rfl⟩
theorem r_L_court_15 : RW M_L_court 15 (.iconst 0) 1 0 0 16 := ⟨rfl, rfl⟩
theorem r_L_court_16 : RW M_L_court 16 (.ireturn) 1 0 0 17 := ⟨rfl, rfl⟩
theorem r_L_crowd_0 : RW M_L_crowd 0 (.aload_n 2) 1 0 0 1 := ⟨rfl, rfl⟩
theorem r_L_crowd_1 : RW M_L_crowd 1 (.iconst 0) 1 0 0 2 := ⟨rfl, rfl⟩
theorem r_L_crowd_2 : RW M_L_crowd 2 (.aload_n 0) 1 0 0 3 := ⟨rfl, rfl⟩
theorem r_L_crowd_3 : RW M_L_crowd 3 (.iload_n 1) 1 0 0 4 := ⟨rfl, rfl⟩
theorem r_L_crowd_4 : RW M_L_crowd 4 (.invokevirtual 96) 3 147 0 7 := ⟨rfl, rfl⟩
theorem r_L_crowd_7 : RW M_L_crowd 7 (.i2l) 1 0 0 8 := ⟨rfl, rfl⟩
theorem r_L_crowd_8 : RW M_L_crowd 8 (.lastore) 1 0 0 9 := ⟨rfl, rfl⟩
theorem r_L_crowd_9 : RW M_L_crowd 9 (.goto 6) 3 15 0 12 := ⟨rfl, rfl⟩
theorem r_L_crowd_13 : RW M_L_crowd 13 (.iconst 1) 1 0 0 14 := ⟨rfl, rfl⟩
theorem r_L_crowd_14 : RW M_L_crowd 14 (.ireturn) 1 0 0 15 := ⟨rfl, rfl⟩
theorem r_L_crowd_15 : RW M_L_crowd 15 (.iconst 0) 1 0 0 16 := ⟨rfl, rfl⟩
theorem r_L_crowd_16 : RW M_L_crowd 16 (.ireturn) 1 0 0 17 := ⟨rfl, rfl⟩
theorem r_L_delay_0 : RW M_L_delay 0 (.aload_n 2) 1 0 0 1 := ⟨rfl, rfl⟩
theorem r_L_delay_1 : RW M_L_delay 1 (.iconst 0) 1 0 0 2 := ⟨rfl, rfl⟩
theorem r_L_delay_2 : RW M_L_delay 2 (.aload_n 0) 1 0 0 3 := ⟨rfl, rfl⟩
theorem r_L_delay_3 : RW M_L_delay 3 (.iload_n 1) 1 0 0 4 := ⟨rfl, rfl⟩
theorem r_L_delay_4 : RW M_L_delay 4 (.invokevirtual 87) 3 143 0 7 := ⟨rfl, rfl⟩
theorem r_L_delay_7 : RW M_L_delay 7 (.i2l) 1 0 0 8 := ⟨rfl, rfl⟩
theorem r_L_delay_8 : RW M_L_delay 8 (.lastore) 1 0 0 9 := ⟨rfl, rfl⟩
theorem r_L_delay_9 : RW M_L_delay 9 (.goto 6) 3 15 0 12 := ⟨rfl, rfl⟩
theorem r_L_delay_13 : RW M_L_delay 13 (.iconst 1) 1 0 0 14 := ⟨rfl, rfl⟩
theorem r_L_delay_14 : RW M_L_delay 14 (.ireturn) 1 0 0 15 := ⟨rfl, rfl⟩
theorem r_L_delay_15 : RW M_L_delay 15 (.iconst 0) 1 0 0 16 := ⟨rfl, rfl⟩
theorem r_L_delay_16 : RW M_L_delay 16 (.ireturn) 1 0 0 17 := ⟨rfl, rfl⟩
theorem r_L_fits_0 : RW M_L_fits 0 (.aload_n 2) 1 0 0 1 := ⟨rfl, rfl⟩
theorem r_L_fits_1 : RW M_L_fits 1 (.iconst 0) 1 0 0 2 := ⟨rfl, rfl⟩
theorem r_L_fits_2 : RW M_L_fits 2 (.aload_n 0) 1 0 0 3 := ⟨rfl, rfl⟩
theorem r_L_fits_3 : RW M_L_fits 3 (.iload_n 1) 1 0 0 4 := ⟨rfl, rfl⟩
theorem r_L_fits_4 : RW M_L_fits 4 (.invokevirtual 55) 3 132 0 7 := ⟨rfl, rfl⟩
theorem r_L_fits_7 : RW M_L_fits 7 (.i2l) 1 0 0 8 := ⟨rfl, rfl⟩
theorem r_L_fits_8 : RW M_L_fits 8 (.lastore) 1 0 0 9 := ⟨rfl, rfl⟩
theorem r_L_fits_9 : RW M_L_fits 9 (.goto 6) 3 15 0 12 := ⟨rfl, rfl⟩
theorem r_L_fits_13 : RW M_L_fits 13 (.iconst 1) 1 0 0 14 := ⟨rfl, rfl⟩
theorem r_L_fits_14 : RW M_L_fits 14 (.ireturn) 1 0 0 15 := ⟨rfl, rfl⟩
theorem r_L_fits_15 : RW M_L_fits 15 (.iconst 0) 1 0 0 16 := ⟨rfl, rfl⟩
theorem r_L_fits_16 : RW M_L_fits 16 (.ireturn) 1 0 0 17 := ⟨rfl, rfl⟩
theorem r_L_follows_0 : RW M_L_follows 0 (.aload_n 2) 1 0 0 1 := ⟨rfl, rfl⟩
theorem r_L_follows_1 : RW M_L_follows 1 (.iconst 0) 1 0 0 2 := ⟨rfl, rfl⟩
theorem r_L_follows_2 : RW M_L_follows 2 (.aload_n 0) 1 0 0 3 := ⟨rfl, rfl⟩
theorem r_L_follows_3 : RW M_L_follows 3 (.iload_n 1) 1 0 0 4 := ⟨rfl, rfl⟩
theorem r_L_follows_4 : RW M_L_follows 4 (.invokevirtual 49) 3 129 0 7 := ⟨rfl, rfl⟩
theorem r_L_follows_7 : RW M_L_follows 7 (.i2l) 1 0 0 8 := ⟨rfl, rfl⟩
theorem r_L_follows_8 : RW M_L_follows 8 (.lastore) 1 0 0 9 := ⟨rfl, rfl⟩
theorem r_L_follows_9 : RW M_L_follows 9 (.goto 6) 3 15 0 12 := ⟨rfl, rfl⟩
theorem r_L_follows_13 : RW M_L_follows 13 (.iconst 1) 1 0 0 14 := ⟨rfl, rfl⟩
theorem r_L_follows_14 : RW M_L_follows 14 (.ireturn) 1 0 0 15 := ⟨rfl, rfl⟩
theorem r_L_follows_15 : RW M_L_follows 15 (.iconst 0) 1 0 0 16 := ⟨rfl, rfl⟩
theorem r_L_follows_16 : RW M_L_follows 16 (.ireturn) 1 0 0 17 := ⟨rfl, rfl⟩
theorem r_L_hide_0 : RW M_L_hide 0 (.aload_n 3) 1 0 0 1 := ⟨rfl, rfl⟩
theorem r_L_hide_1 : RW M_L_hide 1 (.iconst 0) 1 0 0 2 := ⟨rfl, rfl⟩
theorem r_L_hide_2 : RW M_L_hide 2 (.aload_n 0) 1 0 0 3 := ⟨rfl, rfl⟩
theorem r_L_hide_3 : RW M_L_hide 3 (.iload_n 1) 1 0 0 4 := ⟨rfl, rfl⟩
theorem r_L_hide_4 : RW M_L_hide 4 (.iload_n 2) 1 0 0 5 := ⟨rfl, rfl⟩
theorem r_L_hide_5 : RW M_L_hide 5 (.invokevirtual 46) 3 128 0 8 := ⟨rfl, rfl⟩
theorem r_L_hide_8 : RW M_L_hide 8 (.i2l) 1 0 0 9 := ⟨rfl, rfl⟩
theorem r_L_hide_9 : RW M_L_hide 9 (.lastore) 1 0 0 10 := ⟨rfl, rfl⟩
theorem r_L_hide_10 : RW M_L_hide 10 (.goto 7) 3 17 0 13 := ⟨rfl, rfl⟩
theorem r_L_hide_15 : RW M_L_hide 15 (.iconst 1) 1 0 0 16 := ⟨rfl, rfl⟩
theorem r_L_hide_16 : RW M_L_hide 16 (.ireturn) 1 0 0 17 := ⟨rfl, rfl⟩
theorem r_L_hide_17 : RW M_L_hide 17 (.iconst 0) 1 0 0 18 := ⟨rfl, rfl⟩
theorem r_L_hide_18 : RW M_L_hide 18 (.ireturn) 1 0 0 19 := ⟨rfl, rfl⟩
theorem r_L_kind_0 : RW M_L_kind 0 (.aload 5) 2 0 0 2 := ⟨rfl, rfl⟩
theorem r_L_kind_2 : RW M_L_kind 2 (.iconst 0) 1 0 0 3 := ⟨rfl, rfl⟩
theorem r_L_kind_3 : RW M_L_kind 3 (.aload_n 0) 1 0 0 4 := ⟨rfl, rfl⟩
theorem r_L_kind_4 : RW M_L_kind 4 (.iload_n 1) 1 0 0 5 := ⟨rfl, rfl⟩
theorem r_L_kind_5 : RW M_L_kind 5 (.iload_n 2) 1 0 0 6 := ⟨rfl, rfl⟩
theorem r_L_kind_6 : RW M_L_kind 6 (.iload_n 3) 1 0 0 7 := ⟨rfl, rfl⟩
theorem r_L_kind_7 : RW M_L_kind 7 (.iload 4) 2 0 0 9 := ⟨rfl, rfl⟩
theorem r_L_kind_9 : RW M_L_kind 9 (.invokevirtual 61) 3 134 0 12 := ⟨rfl, rfl⟩
theorem r_L_kind_12 : RW M_L_kind 12 (.lastore) 1 0 0 13 := ⟨rfl, rfl⟩
theorem r_L_kind_13 : RW M_L_kind 13 (.goto 7) 3 20 0 16 := ⟨rfl, rfl⟩
theorem r_L_kind_18 : RW M_L_kind 18 (.iconst 1) 1 0 0 19 := ⟨rfl, rfl⟩
theorem r_L_kind_19 : RW M_L_kind 19 (.ireturn) 1 0 0 20 := ⟨rfl, rfl⟩
theorem r_L_kind_20 : RW M_L_kind 20 (.iconst 0) 1 0 0 21 := ⟨rfl, rfl⟩
theorem r_L_kind_21 : RW M_L_kind 21 (.ireturn) 1 0 0 22 := ⟨rfl, rfl⟩
theorem r_L_law_0 : RW M_L_law 0 (.aload_n 2) 1 0 0 1 := ⟨rfl, rfl⟩
theorem r_L_law_1 : RW M_L_law 1 (.iconst 0) 1 0 0 2 := ⟨rfl, rfl⟩
theorem r_L_law_2 : RW M_L_law 2 (.aload_n 0) 1 0 0 3 := ⟨rfl, rfl⟩
theorem r_L_law_3 : RW M_L_law 3 (.iload_n 1) 1 0 0 4 := ⟨rfl, rfl⟩
theorem r_L_law_4 : RW M_L_law 4 (.invokevirtual 15) 3 115 0 7 := ⟨rfl, rfl⟩
theorem r_L_law_7 : RW M_L_law 7 (.i2l) 1 0 0 8 := ⟨rfl, rfl⟩
theorem r_L_law_8 : RW M_L_law 8 (.lastore) 1 0 0 9 := ⟨rfl, rfl⟩
theorem r_L_law_9 : RW M_L_law 9 (.goto 6) 3 15 0 12 := ⟨rfl, rfl⟩
theorem r_L_law_13 : RW M_L_law 13 (.iconst 1) 1 0 0 14 := ⟨rfl, rfl⟩
theorem r_L_law_14 : RW M_L_law 14 (.ireturn) 1 0 0 15 := ⟨rfl, rfl⟩
theorem r_L_law_15 : RW M_L_law 15 (.iconst 0) 1 0 0 16 := ⟨rfl, rfl⟩
theorem r_L_law_16 : RW M_L_law 16 (.ireturn) 1 0 0 17 := ⟨rfl, rfl⟩
theorem r_L_leaders_0 : RW M_L_leaders 0 (.aload_n 3) 1 0 0 1 := ⟨rfl, rfl⟩
theorem r_L_leaders_1 : RW M_L_leaders 1 (.iconst 0) 1 0 0 2 := ⟨rfl, rfl⟩
theorem r_L_leaders_2 : RW M_L_leaders 2 (.aload_n 0) 1 0 0 3 := ⟨rfl, rfl⟩
theorem r_L_leaders_3 : RW M_L_leaders 3 (.iload_n 1) 1 0 0 4 := ⟨rfl, rfl⟩
theorem r_L_leaders_4 : RW M_L_leaders 4 (.iload_n 2) 1 0 0 5 := ⟨rfl, rfl⟩
theorem r_L_leaders_5 : RW M_L_leaders 5 (.invokevirtual 81) 3 140 0 8 := ⟨rfl, rfl⟩
theorem r_L_leaders_8 : RW M_L_leaders 8 (.i2l) 1 0 0 9 := ⟨rfl, rfl⟩
theorem r_L_leaders_9 : RW M_L_leaders 9 (.lastore) 1 0 0 10 := ⟨rfl, rfl⟩
theorem r_L_leaders_10 : RW M_L_leaders 10 (.goto 11) 3 21 0 13 := ⟨rfl, rfl⟩
theorem r_L_leaders_15 : RW M_L_leaders 15 (.iconst 1) 1 0 0 16 := ⟨rfl, rfl⟩
theorem r_L_leaders_16 : RW M_L_leaders 16 (.ireturn) 1 0 0 17 := ⟨rfl, rfl⟩
theorem r_L_leaders_19 : RW M_L_leaders 19 (.iconst 2) 1 0 0 20 := ⟨rfl, rfl⟩
theorem r_L_leaders_20 : RW M_L_leaders 20 (.ireturn) 1 0 0 21 := ⟨rfl, rfl⟩
theorem r_L_leaders_21 : RW M_L_leaders 21 (.iconst 0) 1 0 0 22 := ⟨rfl, rfl⟩
theorem r_L_leaders_22 : RW M_L_leaders 22 (.ireturn) 1 0 0 23 := ⟨rfl, rfl⟩
theorem r_L_loaf_0 : RW M_L_loaf 0 (.aload 4) 2 0 0 2 := ⟨rfl, rfl⟩
theorem r_L_loaf_2 : RW M_L_loaf 2 (.iconst 0) 1 0 0 3 := ⟨rfl, rfl⟩
theorem r_L_loaf_3 : RW M_L_loaf 3 (.aload_n 0) 1 0 0 4 := ⟨rfl, rfl⟩
theorem r_L_loaf_4 : RW M_L_loaf 4 (.iload_n 1) 1 0 0 5 := ⟨rfl, rfl⟩
theorem r_L_loaf_5 : RW M_L_loaf 5 (.iload_n 2) 1 0 0 6 := ⟨rfl, rfl⟩
theorem r_L_loaf_6 : RW M_L_loaf 6 (.iload_n 3) 1 0 0 7 := ⟨rfl, rfl⟩
theorem r_L_loaf_7 : RW M_L_loaf 7 (.invokevirtual 69) 3 136 0 10 := ⟨rfl, rfl⟩
theorem r_L_loaf_10 : RW M_L_loaf 10 (.i2l) 1 0 0 11 := ⟨rfl, rfl⟩
theorem r_L_loaf_11 : RW M_L_loaf 11 (.lastore) 1 0 0 12 := ⟨rfl, rfl⟩
theorem r_L_loaf_12 : RW M_L_loaf 12 (.goto 11) 3 23 0 15 := ⟨rfl, rfl⟩
theorem r_L_loaf_17 : RW M_L_loaf 17 (.iconst 1) 1 0 0 18 := ⟨rfl, rfl⟩
theorem r_L_loaf_18 : RW M_L_loaf 18 (.ireturn) 1 0 0 19 := ⟨rfl, rfl⟩
theorem r_L_loaf_21 : RW M_L_loaf 21 (.iconst 2) 1 0 0 22 := ⟨rfl, rfl⟩
theorem r_L_loaf_22 : RW M_L_loaf 22 (.ireturn) 1 0 0 23 := ⟨rfl, rfl⟩
theorem r_L_loaf_23 : RW M_L_loaf 23 (.iconst 0) 1 0 0 24 := ⟨rfl, rfl⟩
theorem r_L_loaf_24 : RW M_L_loaf 24 (.ireturn) 1 0 0 25 := ⟨rfl, rfl⟩
theorem r_L_look_0 : RW M_L_look 0 (.aload_n 2) 1 0 0 1 := ⟨rfl, rfl⟩
theorem r_L_look_1 : RW M_L_look 1 (.iconst 0) 1 0 0 2 := ⟨rfl, rfl⟩
theorem r_L_look_2 : RW M_L_look 2 (.aload_n 0) 1 0 0 3 := ⟨rfl, rfl⟩
theorem r_L_look_3 : RW M_L_look 3 (.iload_n 1) 1 0 0 4 := ⟨rfl, rfl⟩
theorem r_L_look_4 : RW M_L_look 4 (.invokevirtual 58) 3 133 0 7 := ⟨rfl, rfl⟩
theorem r_L_look_7 : RW M_L_look 7 (.i2l) 1 0 0 8 := ⟨rfl, rfl⟩
theorem r_L_look_8 : RW M_L_look 8 (.lastore) 1 0 0 9 := ⟨rfl, rfl⟩
theorem r_L_look_9 : RW M_L_look 9 (.goto 6) 3 15 0 12 := ⟨rfl, rfl⟩
theorem r_L_look_13 : RW M_L_look 13 (.iconst 1) 1 0 0 14 := ⟨rfl, rfl⟩
theorem r_L_look_14 : RW M_L_look 14 (.ireturn) 1 0 0 15 := ⟨rfl, rfl⟩
theorem r_L_look_15 : RW M_L_look 15 (.iconst 0) 1 0 0 16 := ⟨rfl, rfl⟩
theorem r_L_look_16 : RW M_L_look 16 (.ireturn) 1 0 0 17 := ⟨rfl, rfl⟩
theorem r_L_loss_0 : RW M_L_loss 0 (.aload_n 2) 1 0 0 1 := ⟨rfl, rfl⟩
theorem r_L_loss_1 : RW M_L_loss 1 (.iconst 0) 1 0 0 2 := ⟨rfl, rfl⟩
theorem r_L_loss_2 : RW M_L_loss 2 (.aload_n 0) 1 0 0 3 := ⟨rfl, rfl⟩
theorem r_L_loss_3 : RW M_L_loss 3 (.iload_n 1) 1 0 0 4 := ⟨rfl, rfl⟩
theorem r_L_loss_4 : RW M_L_loss 4 (.invokevirtual 72) 3 137 0 7 := ⟨rfl, rfl⟩
theorem r_L_loss_7 : RW M_L_loss 7 (.i2l) 1 0 0 8 := ⟨rfl, rfl⟩
theorem r_L_loss_8 : RW M_L_loss 8 (.lastore) 1 0 0 9 := ⟨rfl, rfl⟩
theorem r_L_loss_9 : RW M_L_loss 9 (.goto 6) 3 15 0 12 := ⟨rfl, rfl⟩
theorem r_L_loss_13 : RW M_L_loss 13 (.iconst 1) 1 0 0 14 := ⟨rfl, rfl⟩
theorem r_L_loss_14 : RW M_L_loss 14 (.ireturn) 1 0 0 15 := ⟨rfl, rfl⟩
theorem r_L_loss_15 : RW M_L_loss 15 (.iconst 0) 1 0 0 16 := ⟨rfl, rfl⟩
theorem r_L_loss_16 : RW M_L_loss 16 (.ireturn) 1 0 0 17 := ⟨rfl, rfl⟩
theorem r_L_next_0 : RW M_L_next 0 (.aload_n 2) 1 0 0 1 := ⟨rfl, rfl⟩
theorem r_L_next_1 : RW M_L_next 1 (.iconst 0) 1 0 0 2 := ⟨rfl, rfl⟩
theorem r_L_next_2 : RW M_L_next 2 (.aload_n 0) 1 0 0 3 := ⟨rfl, rfl⟩
theorem r_L_next_3 : RW M_L_next 3 (.iload_n 1) 1 0 0 4 := ⟨rfl, rfl⟩
theorem r_L_next_4 : RW M_L_next 4 (.invokevirtual 75) 3 138 0 7 := ⟨rfl, rfl⟩
theorem r_L_next_7 : RW M_L_next 7 (.i2l) 1 0 0 8 := ⟨rfl, rfl⟩
theorem r_L_next_8 : RW M_L_next 8 (.lastore) 1 0 0 9 := ⟨rfl, rfl⟩
theorem r_L_next_9 : RW M_L_next 9 (.goto 6) 3 15 0 12 := ⟨rfl, rfl⟩
theorem r_L_next_13 : RW M_L_next 13 (.iconst 1) 1 0 0 14 := ⟨rfl, rfl⟩
theorem r_L_next_14 : RW M_L_next 14 (.ireturn) 1 0 0 15 := ⟨rfl, rfl⟩
theorem r_L_next_15 : RW M_L_next 15 (.iconst 0) 1 0 0 16 := ⟨rfl, rfl⟩
theorem r_L_next_16 : RW M_L_next 16 (.ireturn) 1 0 0 17 := ⟨rfl, rfl⟩
theorem r_L_order_0 : RW M_L_order 0 (.aload 4) 2 0 0 2 := ⟨rfl, rfl⟩
theorem r_L_order_2 : RW M_L_order 2 (.iconst 0) 1 0 0 3 := ⟨rfl, rfl⟩
theorem r_L_order_3 : RW M_L_order 3 (.aload_n 0) 1 0 0 4 := ⟨rfl, rfl⟩
theorem r_L_order_4 : RW M_L_order 4 (.iload_n 1) 1 0 0 5 := ⟨rfl, rfl⟩
theorem r_L_order_5 : RW M_L_order 5 (.iload_n 2) 1 0 0 6 := ⟨rfl, rfl⟩
theorem r_L_order_6 : RW M_L_order 6 (.iload_n 3) 1 0 0 7 := ⟨rfl, rfl⟩
theorem r_L_order_7 : RW M_L_order 7 (.invokevirtual 65) 3 135 0 10 := ⟨rfl, rfl⟩
theorem r_L_order_10 : RW M_L_order 10 (.i2l) 1 0 0 11 := ⟨rfl, rfl⟩
theorem r_L_order_11 : RW M_L_order 11 (.lastore) 1 0 0 12 := ⟨rfl, rfl⟩
theorem r_L_order_12 : RW M_L_order 12 (.goto 7) 3 19 0 15 := ⟨rfl, rfl⟩
theorem r_L_order_17 : RW M_L_order 17 (.iconst 1) 1 0 0 18 := ⟨rfl, rfl⟩
theorem r_L_order_18 : RW M_L_order 18 (.ireturn) 1 0 0 19 := ⟨rfl, rfl⟩
theorem r_L_order_19 : RW M_L_order 19 (.iconst 0) 1 0 0 20 := ⟨rfl, rfl⟩
theorem r_L_order_20 : RW M_L_order 20 (.ireturn) 1 0 0 21 := ⟨rfl, rfl⟩
theorem r_L_over_0 : RW M_L_over 0 (.aload_n 2) 1 0 0 1 := ⟨rfl, rfl⟩
theorem r_L_over_1 : RW M_L_over 1 (.iconst 0) 1 0 0 2 := ⟨rfl, rfl⟩
theorem r_L_over_2 : RW M_L_over 2 (.aload_n 0) 1 0 0 3 := ⟨rfl, rfl⟩
theorem r_L_over_3 : RW M_L_over 3 (.iload_n 1) 1 0 0 4 := ⟨rfl, rfl⟩
theorem r_L_over_4 : RW M_L_over 4 (.invokevirtual 84) 3 142 0 7 := ⟨rfl, rfl⟩
theorem r_L_over_7 : RW M_L_over 7 (.i2l) 1 0 0 8 := ⟨rfl, rfl⟩
theorem r_L_over_8 : RW M_L_over 8 (.lastore) 1 0 0 9 := ⟨rfl, rfl⟩
theorem r_L_over_9 : RW M_L_over 9 (.goto 6) 3 15 0 12 := ⟨rfl, rfl⟩
theorem r_L_over_13 : RW M_L_over 13 (.iconst 1) 1 0 0 14 := ⟨rfl, rfl⟩
theorem r_L_over_14 : RW M_L_over 14 (.ireturn) 1 0 0 15 := ⟨rfl, rfl⟩
theorem r_L_over_15 : RW M_L_over 15 (.iconst 0) 1 0 0 16 := ⟨rfl, rfl⟩
theorem r_L_over_16 : RW M_L_over 16 (.ireturn) 1 0 0 17 := ⟨rfl, rfl⟩
theorem r_L_point_0 : RW M_L_point 0 (.aload_n 3) 1 0 0 1 := ⟨rfl, rfl⟩
theorem r_L_point_1 : RW M_L_point 1 (.iconst 0) 1 0 0 2 := ⟨rfl, rfl⟩
theorem r_L_point_2 : RW M_L_point 2 (.aload_n 0) 1 0 0 3 := ⟨rfl, rfl⟩
theorem r_L_point_3 : RW M_L_point 3 (.iload_n 1) 1 0 0 4 := ⟨rfl, rfl⟩
theorem r_L_point_4 : RW M_L_point 4 (.iload_n 2) 1 0 0 5 := ⟨rfl, rfl⟩
theorem r_L_point_5 : RW M_L_point 5 (.invokevirtual 90) 3 144 0 8 := ⟨rfl, rfl⟩
theorem r_L_point_8 : RW M_L_point 8 (.i2l) 1 0 0 9 := ⟨rfl, rfl⟩
theorem r_L_point_9 : RW M_L_point 9 (.lastore) 1 0 0 10 := ⟨rfl, rfl⟩
theorem r_L_point_10 : RW M_L_point 10 (.goto 7) 3 17 0 13 := ⟨rfl, rfl⟩
theorem r_L_point_15 : RW M_L_point 15 (.iconst 1) 1 0 0 16 := ⟨rfl, rfl⟩
theorem r_L_point_16 : RW M_L_point 16 (.ireturn) 1 0 0 17 := ⟨rfl, rfl⟩
theorem r_L_point_17 : RW M_L_point 17 (.iconst 0) 1 0 0 18 := ⟨rfl, rfl⟩
theorem r_L_point_18 : RW M_L_point 18 (.ireturn) 1 0 0 19 := ⟨rfl, rfl⟩
theorem r_L_proof_0 : RW M_L_proof 0 (.aload_n 2) 1 0 0 1 := ⟨rfl, rfl⟩
theorem r_L_proof_1 : RW M_L_proof 1 (.iconst 0) 1 0 0 2 := ⟨rfl, rfl⟩
theorem r_L_proof_2 : RW M_L_proof 2 (.aload_n 0) 1 0 0 3 := ⟨rfl, rfl⟩
theorem r_L_proof_3 : RW M_L_proof 3 (.iload_n 1) 1 0 0 4 := ⟨rfl, rfl⟩
theorem r_L_proof_4 : RW M_L_proof 4 (.invokevirtual 52) 3 130 0 7 := ⟨rfl, rfl⟩
theorem r_L_proof_7 : RW M_L_proof 7 (.i2l) 1 0 0 8 := ⟨rfl, rfl⟩
theorem r_L_proof_8 : RW M_L_proof 8 (.lastore) 1 0 0 9 := ⟨rfl, rfl⟩
theorem r_L_proof_9 : RW M_L_proof 9 (.goto 6) 3 15 0 12 := ⟨rfl, rfl⟩
theorem r_L_proof_13 : RW M_L_proof 13 (.iconst 1) 1 0 0 14 := ⟨rfl, rfl⟩
theorem r_L_proof_14 : RW M_L_proof 14 (.ireturn) 1 0 0 15 := ⟨rfl, rfl⟩
theorem r_L_proof_15 : RW M_L_proof 15 (.iconst 0) 1 0 0 16 := ⟨rfl, rfl⟩
theorem r_L_proof_16 : RW M_L_proof 16 (.ireturn) 1 0 0 17 := ⟨rfl, rfl⟩
theorem r_L_purse_0 : RW M_L_purse 0 (.aload_n 2) 1 0 0 1 := ⟨rfl, rfl⟩
theorem r_L_purse_1 : RW M_L_purse 1 (.iconst 0) 1 0 0 2 := ⟨rfl, rfl⟩
theorem r_L_purse_2 : RW M_L_purse 2 (.aload_n 0) 1 0 0 3 := ⟨rfl, rfl⟩
theorem r_L_purse_3 : RW M_L_purse 3 (.iload_n 1) 1 0 0 4 := ⟨rfl, rfl⟩
theorem r_L_purse_4 : RW M_L_purse 4 (.invokevirtual 93) 3 145 0 7 := ⟨rfl, rfl⟩
theorem r_L_purse_7 : RW M_L_purse 7 (.i2l) 1 0 0 8 := ⟨rfl, rfl⟩
theorem r_L_purse_8 : RW M_L_purse 8 (.lastore) 1 0 0 9 := ⟨rfl, rfl⟩
theorem r_L_purse_9 : RW M_L_purse 9 (.goto 6) 3 15 0 12 := ⟨rfl, rfl⟩
theorem r_L_purse_13 : RW M_L_purse 13 (.iconst 1) 1 0 0 14 := ⟨rfl, rfl⟩
theorem r_L_purse_14 : RW M_L_purse 14 (.ireturn) 1 0 0 15 := ⟨rfl, rfl⟩
theorem r_L_purse_15 : RW M_L_purse 15 (.iconst 0) 1 0 0 16 := ⟨rfl, rfl⟩
theorem r_L_purse_16 : RW M_L_purse 16 (.ireturn) 1 0 0 17 := ⟨rfl, rfl⟩
theorem r_L_saying_0 : RW M_L_saying 0 (.aload_n 3) 1 0 0 1 := ⟨rfl, rfl⟩
theorem r_L_saying_1 : RW M_L_saying 1 (.iconst 0) 1 0 0 2 := ⟨rfl, rfl⟩
theorem r_L_saying_2 : RW M_L_saying 2 (.aload_n 0) 1 0 0 3 := ⟨rfl, rfl⟩
theorem r_L_saying_3 : RW M_L_saying 3 (.iload_n 1) 1 0 0 4 := ⟨rfl, rfl⟩
theorem r_L_saying_4 : RW M_L_saying 4 (.iload_n 2) 1 0 0 5 := ⟨rfl, rfl⟩
theorem r_L_saying_5 : RW M_L_saying 5 (.invokevirtual 27) 3 122 0 8 := ⟨rfl, rfl⟩
theorem r_L_saying_8 : RW M_L_saying 8 (.i2l) 1 0 0 9 := ⟨rfl, rfl⟩
theorem r_L_saying_9 : RW M_L_saying 9 (.lastore) 1 0 0 10 := ⟨rfl, rfl⟩
theorem r_L_saying_10 : RW M_L_saying 10 (.goto 11) 3 21 0 13 := ⟨rfl, rfl⟩
theorem r_L_saying_15 : RW M_L_saying 15 (.iconst 1) 1 0 0 16 := ⟨rfl, rfl⟩
theorem r_L_saying_16 : RW M_L_saying 16 (.ireturn) 1 0 0 17 := ⟨rfl, rfl⟩
theorem r_L_saying_19 : RW M_L_saying 19 (.iconst 2) 1 0 0 20 := ⟨rfl, rfl⟩
theorem r_L_saying_20 : RW M_L_saying 20 (.ireturn) 1 0 0 21 := ⟨rfl, rfl⟩
theorem r_L_saying_21 : RW M_L_saying 21 (.iconst 0) 1 0 0 22 := ⟨rfl, rfl⟩
theorem r_L_saying_22 : RW M_L_saying 22 (.ireturn) 1 0 0 23 := ⟨rfl, rfl⟩
theorem r_L_side_0 : RW M_L_side 0 (.aload_n 3) 1 0 0 1 := ⟨rfl, rfl⟩
theorem r_L_side_1 : RW M_L_side 1 (.iconst 0) 1 0 0 2 := ⟨rfl, rfl⟩
theorem r_L_side_2 : RW M_L_side 2 (.aload_n 0) 1 0 0 3 := ⟨rfl, rfl⟩
theorem r_L_side_3 : RW M_L_side 3 (.iload_n 1) 1 0 0 4 := ⟨rfl, rfl⟩
theorem r_L_side_4 : RW M_L_side 4 (.iload_n 2) 1 0 0 5 := ⟨rfl, rfl⟩
theorem r_L_side_5 : RW M_L_side 5 (.invokevirtual 78) 3 139 0 8 := ⟨rfl, rfl⟩
theorem r_L_side_8 : RW M_L_side 8 (.i2l) 1 0 0 9 := ⟨rfl, rfl⟩
theorem r_L_side_9 : RW M_L_side 9 (.lastore) 1 0 0 10 := ⟨rfl, rfl⟩
theorem r_L_side_10 : RW M_L_side 10 (.goto 7) 3 17 0 13 := ⟨rfl, rfl⟩
theorem r_L_side_15 : RW M_L_side 15 (.iconst 1) 1 0 0 16 := ⟨rfl, rfl⟩
theorem r_L_side_16 : RW M_L_side 16 (.ireturn) 1 0 0 17 := ⟨rfl, rfl⟩
theorem r_L_side_17 : RW M_L_side 17 (.iconst 0) 1 0 0 18 := ⟨rfl, rfl⟩
theorem r_L_side_18 : RW M_L_side 18 (.ireturn) 1 0 0 19 := ⟨rfl, rfl⟩
theorem r_L_span_0 : RW M_L_span 0 (.aload 7) 2 0 0 2 := ⟨rfl, rfl⟩
theorem r_L_span_2 : RW M_L_span 2 (.iconst 0) 1 0 0 3 := ⟨rfl, rfl⟩
theorem r_L_span_3 : RW M_L_span 3 (.aload_n 0) 1 0 0 4 := ⟨rfl, rfl⟩
theorem r_L_span_4 : RW M_L_span 4 (.iload_n 1) 1 0 0 5 := ⟨rfl, rfl⟩
theorem r_L_span_5 : RW M_L_span 5 (.iload_n 2) 1 0 0 6 := ⟨rfl, rfl⟩
theorem r_L_span_6 : RW M_L_span 6 (.iload_n 3) 1 0 0 7 := ⟨rfl, rfl⟩
theorem r_L_span_7 : RW M_L_span 7 (.iload 4) 2 0 0 9 := ⟨rfl, rfl⟩
theorem r_L_span_9 : RW M_L_span 9 (.iload 5) 2 0 0 11 := ⟨rfl, rfl⟩
theorem r_L_span_11 : RW M_L_span 11 (.iload 6) 2 0 0 13 := ⟨rfl, rfl⟩
theorem r_L_span_13 : RW M_L_span 13 (.invokevirtual 109) 3 151 0 16 := ⟨rfl, rfl⟩
theorem r_L_span_16 : RW M_L_span 16 (.i2l) 1 0 0 17 := ⟨rfl, rfl⟩
theorem r_L_span_17 : RW M_L_span 17 (.lastore) 1 0 0 18 := ⟨rfl, rfl⟩
theorem r_L_span_18 : RW M_L_span 18 (.goto 7) 3 25 0 21 := ⟨rfl, rfl⟩
theorem r_L_span_23 : RW M_L_span 23 (.iconst 1) 1 0 0 24 := ⟨rfl, rfl⟩
theorem r_L_span_24 : RW M_L_span 24 (.ireturn) 1 0 0 25 := ⟨rfl, rfl⟩
theorem r_L_span_25 : RW M_L_span 25 (.iconst 0) 1 0 0 26 := ⟨rfl, rfl⟩
theorem r_L_span_26 : RW M_L_span 26 (.ireturn) 1 0 0 27 := ⟨rfl, rfl⟩
theorem r_L_swing_0 : RW M_L_swing 0 (.aload_n 2) 1 0 0 1 := ⟨rfl, rfl⟩
theorem r_L_swing_1 : RW M_L_swing 1 (.iconst 0) 1 0 0 2 := ⟨rfl, rfl⟩
theorem r_L_swing_2 : RW M_L_swing 2 (.aload_n 0) 1 0 0 3 := ⟨rfl, rfl⟩
theorem r_L_swing_3 : RW M_L_swing 3 (.iload_n 1) 1 0 0 4 := ⟨rfl, rfl⟩
theorem r_L_swing_4 : RW M_L_swing 4 (.invokevirtual 99) 3 148 0 7 := ⟨rfl, rfl⟩
theorem r_L_swing_7 : RW M_L_swing 7 (.i2l) 1 0 0 8 := ⟨rfl, rfl⟩
theorem r_L_swing_8 : RW M_L_swing 8 (.lastore) 1 0 0 9 := ⟨rfl, rfl⟩
theorem r_L_swing_9 : RW M_L_swing 9 (.goto 6) 3 15 0 12 := ⟨rfl, rfl⟩
theorem r_L_swing_13 : RW M_L_swing 13 (.iconst 1) 1 0 0 14 := ⟨rfl, rfl⟩
theorem r_L_swing_14 : RW M_L_swing 14 (.ireturn) 1 0 0 15 := ⟨rfl, rfl⟩
theorem r_L_swing_15 : RW M_L_swing 15 (.iconst 0) 1 0 0 16 := ⟨rfl, rfl⟩
theorem r_L_swing_16 : RW M_L_swing 16 (.ireturn) 1 0 0 17 := ⟨rfl, rfl⟩
theorem r_L_term_0 : RW M_L_term 0 (.aload 5) 2 0 0 2 := ⟨rfl, rfl⟩
theorem r_L_term_2 : RW M_L_term 2 (.iconst 0) 1 0 0 3 := ⟨rfl, rfl⟩
theorem r_L_term_3 : RW M_L_term 3 (.aload_n 0) 1 0 0 4 := ⟨rfl, rfl⟩
theorem r_L_term_4 : RW M_L_term 4 (.iload_n 1) 1 0 0 5 := ⟨rfl, rfl⟩
theorem r_L_term_5 : RW M_L_term 5 (.iload_n 2) 1 0 0 6 := ⟨rfl, rfl⟩
theorem r_L_term_6 : RW M_L_term 6 (.iload_n 3) 1 0 0 7 := ⟨rfl, rfl⟩
theorem r_L_term_7 : RW M_L_term 7 (.iload 4) 2 0 0 9 := ⟨rfl, rfl⟩
theorem r_L_term_9 : RW M_L_term 9 (.invokevirtual 105) 3 150 0 12 := ⟨rfl, rfl⟩
theorem r_L_term_12 : RW M_L_term 12 (.i2l) 1 0 0 13 := ⟨rfl, rfl⟩
theorem r_L_term_13 : RW M_L_term 13 (.lastore) 1 0 0 14 := ⟨rfl, rfl⟩
theorem r_L_term_14 : RW M_L_term 14 (.goto 7) 3 21 0 17 := ⟨rfl, rfl⟩
theorem r_L_term_19 : RW M_L_term 19 (.iconst 1) 1 0 0 20 := ⟨rfl, rfl⟩
theorem r_L_term_20 : RW M_L_term 20 (.ireturn) 1 0 0 21 := ⟨rfl, rfl⟩
theorem r_L_term_21 : RW M_L_term 21 (.iconst 0) 1 0 0 22 := ⟨rfl, rfl⟩
theorem r_L_term_22 : RW M_L_term 22 (.ireturn) 1 0 0 23 := ⟨rfl, rfl⟩
theorem r_L_told_0 : RW M_L_told 0 (.aload_n 2) 1 0 0 1 := ⟨rfl, rfl⟩
theorem r_L_told_1 : RW M_L_told 1 (.iconst 0) 1 0 0 2 := ⟨rfl, rfl⟩
theorem r_L_told_2 : RW M_L_told 2 (.aload_n 0) 1 0 0 3 := ⟨rfl, rfl⟩
theorem r_L_told_3 : RW M_L_told 3 (.iload_n 1) 1 0 0 4 := ⟨rfl, rfl⟩
theorem r_L_told_4 : RW M_L_told 4 (.invokevirtual 24) 3 120 0 7 := ⟨rfl, rfl⟩
theorem r_L_told_7 : RW M_L_told 7 (.i2l) 1 0 0 8 := ⟨rfl, rfl⟩
theorem r_L_told_8 : RW M_L_told 8 (.lastore) 1 0 0 9 := ⟨rfl, rfl⟩
theorem r_L_told_9 : RW M_L_told 9 (.goto 6) 3 15 0 12 := ⟨rfl, rfl⟩
theorem r_L_told_13 : RW M_L_told 13 (.iconst 1) 1 0 0 14 := ⟨rfl, rfl⟩
theorem r_L_told_14 : RW M_L_told 14 (.ireturn) 1 0 0 15 := ⟨rfl, rfl⟩
theorem r_L_told_15 : RW M_L_told 15 (.iconst 0) 1 0 0 16 := ⟨rfl, rfl⟩
theorem r_L_told_16 : RW M_L_told 16 (.ireturn) 1 0 0 17 := ⟨rfl, rfl⟩
theorem r_L_when_0 : RW M_L_when 0 (.aload_n 2) 1 0 0 1 := ⟨rfl, rfl⟩
theorem r_L_when_1 : RW M_L_when 1 (.iconst 0) 1 0 0 2 := ⟨rfl, rfl⟩
theorem r_L_when_2 : RW M_L_when 2 (.aload_n 0) 1 0 0 3 := ⟨rfl, rfl⟩
theorem r_L_when_3 : RW M_L_when 3 (.iload_n 1) 1 0 0 4 := ⟨rfl, rfl⟩
theorem r_L_when_4 : RW M_L_when 4 (.invokevirtual 102) 3 149 0 7 := ⟨rfl, rfl⟩
theorem r_L_when_7 : RW M_L_when 7 (.i2l) 1 0 0 8 := ⟨rfl, rfl⟩
theorem r_L_when_8 : RW M_L_when 8 (.lastore) 1 0 0 9 := ⟨rfl, rfl⟩
theorem r_L_when_9 : RW M_L_when 9 (.goto 6) 3 15 0 12 := ⟨rfl, rfl⟩
theorem r_L_when_13 : RW M_L_when 13 (.iconst 1) 1 0 0 14 := ⟨rfl, rfl⟩
theorem r_L_when_14 : RW M_L_when 14 (.ireturn) 1 0 0 15 := ⟨rfl, rfl⟩
theorem r_L_when_15 : RW M_L_when 15 (.iconst 0) 1 0 0 16 := ⟨rfl, rfl⟩
theorem r_L_when_16 : RW M_L_when 16 (.ireturn) 1 0 0 17 := ⟨rfl, rfl⟩
theorem r_L_work_0 : RW M_L_work 0 (.aload_n 2) 1 0 0 1 := ⟨rfl, rfl⟩
theorem r_L_work_1 : RW M_L_work 1 (.iconst 0) 1 0 0 2 := ⟨rfl, rfl⟩
theorem r_L_work_2 : RW M_L_work 2 (.aload_n 0) 1 0 0 3 := ⟨rfl, rfl⟩
theorem r_L_work_3 : RW M_L_work 3 (.iload_n 1) 1 0 0 4 := ⟨rfl, rfl⟩
theorem r_L_work_4 : RW M_L_work 4 (.invokevirtual 18) 3 116 0 7 := ⟨rfl, rfl⟩
theorem r_L_work_7 : RW M_L_work 7 (.i2l) 1 0 0 8 := ⟨rfl, rfl⟩
theorem r_L_work_8 : RW M_L_work 8 (.lastore) 1 0 0 9 := ⟨rfl, rfl⟩
theorem r_L_work_9 : RW M_L_work 9 (.goto 6) 3 15 0 12 := ⟨rfl, rfl⟩
theorem r_L_work_13 : RW M_L_work 13 (.iconst 1) 1 0 0 14 := ⟨rfl, rfl⟩
theorem r_L_work_14 : RW M_L_work 14 (.ireturn) 1 0 0 15 := ⟨rfl, rfl⟩
theorem r_L_work_15 : RW M_L_work 15 (.iconst 0) 1 0 0 16 := ⟨rfl, rfl⟩
theorem r_L_work_16 : RW M_L_work 16 (.ireturn) 1 0 0 17 := ⟨rfl, rfl⟩
theorem r_L_would_0 : RW M_L_would 0 (.aload 7) 2 0 0 2 := ⟨rfl, rfl⟩
theorem r_L_would_2 : RW M_L_would 2 (.iconst 0) 1 0 0 3 := ⟨rfl, rfl⟩
theorem r_L_would_3 : RW M_L_would 3 (.aload_n 0) 1 0 0 4 := ⟨rfl, rfl⟩
theorem r_L_would_4 : RW M_L_would 4 (.iload_n 1) 1 0 0 5 := ⟨rfl, rfl⟩
theorem r_L_would_5 : RW M_L_would 5 (.iload_n 2) 1 0 0 6 := ⟨rfl, rfl⟩
theorem r_L_would_6 : RW M_L_would 6 (.iload_n 3) 1 0 0 7 := ⟨rfl, rfl⟩
theorem r_L_would_7 : RW M_L_would 7 (.iload 4) 2 0 0 9 := ⟨rfl, rfl⟩
theorem r_L_would_9 : RW M_L_would 9 (.iload 5) 2 0 0 11 := ⟨rfl, rfl⟩
theorem r_L_would_11 : RW M_L_would 11 (.iload 6) 2 0 0 13 := ⟨rfl, rfl⟩
theorem r_L_would_13 : RW M_L_would 13 (.invokevirtual 39) 3 125 0 16 := ⟨rfl, rfl⟩
theorem r_L_would_16 : RW M_L_would 16 (.i2l) 1 0 0 17 := ⟨rfl, rfl⟩
theorem r_L_would_17 : RW M_L_would 17 (.lastore) 1 0 0 18 := ⟨rfl, rfl⟩
theorem r_L_would_18 : RW M_L_would 18 (.goto 7) 3 25 0 21 := ⟨rfl, rfl⟩
theorem r_L_would_23 : RW M_L_would 23 (.iconst 1) 1 0 0 24 := ⟨rfl, rfl⟩
theorem r_L_would_24 : RW M_L_would 24 (.ireturn) 1 0 0 25 := ⟨rfl, rfl⟩
theorem r_L_would_25 : RW M_L_would 25 (.iconst 0) 1 0 0 26 := ⟨rfl, rfl⟩
theorem r_L_would_26 : RW M_L_would 26 (.ireturn) 1 0 0 27 := ⟨rfl, rfl⟩
theorem wv_court {I I1 : Nat → Nat → Int32} {J : Nat → Nat → Int64} {v : Int32} {a0 : Int32} (h : Cl 40 114 [.ref 0, .int a0] (hp I J) (.inl (some (.int v))) (hp I1 J) 0) : Cl 41 291 [.ref 0, .int a0, .ref 135] (hp I J) (.inl (some (.int (nI 0)))) (hp I1 (wr J 135 0 v.toInt64)) 0 := by
  refine Cl.of (CL.intro (M := M_L_court) mt_291 (Nat.le_of_ble_eq_true rfl) ?_)
  show EV none M_L_court 40 0 [(0, .ref 0), (1, .int a0), (2, .ref 135)] [] (hp I J) _
  refine EV.l (lv' := [(0, _), (1, _), (2, _)]) r_L_court_0 rfl ?_
  refine EV.o r_L_court_1 (icN (0) (v := 0)) ?_
  refine EV.l (lv' := [(0, _), (1, _), (2, _)]) r_L_court_2 rfl ?_
  refine EV.l (lv' := [(0, _), (1, _), (2, _)]) r_L_court_3 rfl ?_
  refine EV.inv r_L_court_4.1 rfl (by decide) (aV1 mt_114 la_0) (Nat.le_of_ble_eq_true rfl) h (hp_len _ _ _ _) ?_
  show EV none M_L_court 40 7 [(0, .ref 0), (1, .int a0), (2, .ref 135)] [.int v, .int (nI 0), .ref 135] (hp I1 J) _
  refine EV.o r_L_court_7 rfl ?_
  refine EV.lastoreI r_L_court_8.1 la_135 rfl (by decide) (by decide) ?_
  refine EV.g r_L_court_9 ?_
  refine EV.o r_L_court_15 (icN (0) (v := 0)) ?_
  exact EV.ret r_L_court_16.1 rfl ⟨rfl, rfl, rfl⟩
theorem wx1_court {I I1 : Nat → Nat → Int32} {J : Nat → Nat → Int64} {a0 : Int32} (h : Cl 40 114 [.ref 0, .int a0] (hp I J) (.inr 1) (hp I1 J) 1) : Cl 41 291 [.ref 0, .int a0, .ref 135] (hp I J) (.inl (some (.int (nI 1)))) (hp I1 J) 1 := by
  refine Cl.of (CL.intro (M := M_L_court) mt_291 (Nat.le_of_ble_eq_true rfl) ?_)
  show EV none M_L_court 40 0 [(0, .ref 0), (1, .int a0), (2, .ref 135)] [] (hp I J) _
  refine EV.l (lv' := [(0, _), (1, _), (2, _)]) r_L_court_0 rfl ?_
  refine EV.o r_L_court_1 (icN (0) (v := 0)) ?_
  refine EV.l (lv' := [(0, _), (1, _), (2, _)]) r_L_court_2 rfl ?_
  refine EV.l (lv' := [(0, _), (1, _), (2, _)]) r_L_court_3 rfl ?_
  refine EV.cat (h := 12) (pc' := 13) (lv' := [(0, .ref 0), (1, .int a0), (2, .ref 135)]) r_L_court_4.1 rfl (by decide) (aV1 mt_114 la_0) (Nat.le_of_ble_eq_true rfl) h (hp_len _ _ _ _) (by decide) (by rfl) (by rfl) ?_
  refine EV.o r_L_court_13 (icN (1) (v := 1)) ?_
  exact EV.ret r_L_court_14.1 rfl ⟨rfl, rfl, rfl⟩
theorem wv_law {I I1 : Nat → Nat → Int32} {J : Nat → Nat → Int64} {v : Int32} {a0 : Int32} (h : Cl 40 115 [.ref 0, .int a0] (hp I J) (.inl (some (.int v))) (hp I1 J) 0) : Cl 41 292 [.ref 0, .int a0, .ref 135] (hp I J) (.inl (some (.int (nI 0)))) (hp I1 (wr J 135 0 v.toInt64)) 0 := by
  refine Cl.of (CL.intro (M := M_L_law) mt_292 (Nat.le_of_ble_eq_true rfl) ?_)
  show EV none M_L_law 40 0 [(0, .ref 0), (1, .int a0), (2, .ref 135)] [] (hp I J) _
  refine EV.l (lv' := [(0, _), (1, _), (2, _)]) r_L_law_0 rfl ?_
  refine EV.o r_L_law_1 (icN (0) (v := 0)) ?_
  refine EV.l (lv' := [(0, _), (1, _), (2, _)]) r_L_law_2 rfl ?_
  refine EV.l (lv' := [(0, _), (1, _), (2, _)]) r_L_law_3 rfl ?_
  refine EV.inv r_L_law_4.1 rfl (by decide) (aV1 mt_115 la_0) (Nat.le_of_ble_eq_true rfl) h (hp_len _ _ _ _) ?_
  show EV none M_L_law 40 7 [(0, .ref 0), (1, .int a0), (2, .ref 135)] [.int v, .int (nI 0), .ref 135] (hp I1 J) _
  refine EV.o r_L_law_7 rfl ?_
  refine EV.lastoreI r_L_law_8.1 la_135 rfl (by decide) (by decide) ?_
  refine EV.g r_L_law_9 ?_
  refine EV.o r_L_law_15 (icN (0) (v := 0)) ?_
  exact EV.ret r_L_law_16.1 rfl ⟨rfl, rfl, rfl⟩
theorem wx1_law {I I1 : Nat → Nat → Int32} {J : Nat → Nat → Int64} {a0 : Int32} (h : Cl 40 115 [.ref 0, .int a0] (hp I J) (.inr 1) (hp I1 J) 1) : Cl 41 292 [.ref 0, .int a0, .ref 135] (hp I J) (.inl (some (.int (nI 1)))) (hp I1 J) 1 := by
  refine Cl.of (CL.intro (M := M_L_law) mt_292 (Nat.le_of_ble_eq_true rfl) ?_)
  show EV none M_L_law 40 0 [(0, .ref 0), (1, .int a0), (2, .ref 135)] [] (hp I J) _
  refine EV.l (lv' := [(0, _), (1, _), (2, _)]) r_L_law_0 rfl ?_
  refine EV.o r_L_law_1 (icN (0) (v := 0)) ?_
  refine EV.l (lv' := [(0, _), (1, _), (2, _)]) r_L_law_2 rfl ?_
  refine EV.l (lv' := [(0, _), (1, _), (2, _)]) r_L_law_3 rfl ?_
  refine EV.cat (h := 12) (pc' := 13) (lv' := [(0, .ref 0), (1, .int a0), (2, .ref 135)]) r_L_law_4.1 rfl (by decide) (aV1 mt_115 la_0) (Nat.le_of_ble_eq_true rfl) h (hp_len _ _ _ _) (by decide) (by rfl) (by rfl) ?_
  refine EV.o r_L_law_13 (icN (1) (v := 1)) ?_
  exact EV.ret r_L_law_14.1 rfl ⟨rfl, rfl, rfl⟩
theorem wv_work {I I1 : Nat → Nat → Int32} {J : Nat → Nat → Int64} {v : Int32} {a0 : Int32} (h : Cl 40 116 [.ref 0, .int a0] (hp I J) (.inl (some (.int v))) (hp I1 J) 0) : Cl 41 293 [.ref 0, .int a0, .ref 135] (hp I J) (.inl (some (.int (nI 0)))) (hp I1 (wr J 135 0 v.toInt64)) 0 := by
  refine Cl.of (CL.intro (M := M_L_work) mt_293 (Nat.le_of_ble_eq_true rfl) ?_)
  show EV none M_L_work 40 0 [(0, .ref 0), (1, .int a0), (2, .ref 135)] [] (hp I J) _
  refine EV.l (lv' := [(0, _), (1, _), (2, _)]) r_L_work_0 rfl ?_
  refine EV.o r_L_work_1 (icN (0) (v := 0)) ?_
  refine EV.l (lv' := [(0, _), (1, _), (2, _)]) r_L_work_2 rfl ?_
  refine EV.l (lv' := [(0, _), (1, _), (2, _)]) r_L_work_3 rfl ?_
  refine EV.inv r_L_work_4.1 rfl (by decide) (aV1 mt_116 la_0) (Nat.le_of_ble_eq_true rfl) h (hp_len _ _ _ _) ?_
  show EV none M_L_work 40 7 [(0, .ref 0), (1, .int a0), (2, .ref 135)] [.int v, .int (nI 0), .ref 135] (hp I1 J) _
  refine EV.o r_L_work_7 rfl ?_
  refine EV.lastoreI r_L_work_8.1 la_135 rfl (by decide) (by decide) ?_
  refine EV.g r_L_work_9 ?_
  refine EV.o r_L_work_15 (icN (0) (v := 0)) ?_
  exact EV.ret r_L_work_16.1 rfl ⟨rfl, rfl, rfl⟩
theorem wx1_work {I I1 : Nat → Nat → Int32} {J : Nat → Nat → Int64} {a0 : Int32} (h : Cl 40 116 [.ref 0, .int a0] (hp I J) (.inr 1) (hp I1 J) 1) : Cl 41 293 [.ref 0, .int a0, .ref 135] (hp I J) (.inl (some (.int (nI 1)))) (hp I1 J) 1 := by
  refine Cl.of (CL.intro (M := M_L_work) mt_293 (Nat.le_of_ble_eq_true rfl) ?_)
  show EV none M_L_work 40 0 [(0, .ref 0), (1, .int a0), (2, .ref 135)] [] (hp I J) _
  refine EV.l (lv' := [(0, _), (1, _), (2, _)]) r_L_work_0 rfl ?_
  refine EV.o r_L_work_1 (icN (0) (v := 0)) ?_
  refine EV.l (lv' := [(0, _), (1, _), (2, _)]) r_L_work_2 rfl ?_
  refine EV.l (lv' := [(0, _), (1, _), (2, _)]) r_L_work_3 rfl ?_
  refine EV.cat (h := 12) (pc' := 13) (lv' := [(0, .ref 0), (1, .int a0), (2, .ref 135)]) r_L_work_4.1 rfl (by decide) (aV1 mt_116 la_0) (Nat.le_of_ble_eq_true rfl) h (hp_len _ _ _ _) (by decide) (by rfl) (by rfl) ?_
  refine EV.o r_L_work_13 (icN (1) (v := 1)) ?_
  exact EV.ret r_L_work_14.1 rfl ⟨rfl, rfl, rfl⟩
theorem wv_book {I I1 : Nat → Nat → Int32} {J : Nat → Nat → Int64} {v : Int32} {a0 : Int32} (h : Cl 40 117 [.ref 0, .int a0] (hp I J) (.inl (some (.int v))) (hp I1 J) 0) : Cl 41 294 [.ref 0, .int a0, .ref 135] (hp I J) (.inl (some (.int (nI 0)))) (hp I1 (wr J 135 0 v.toInt64)) 0 := by
  refine Cl.of (CL.intro (M := M_L_book) mt_294 (Nat.le_of_ble_eq_true rfl) ?_)
  show EV none M_L_book 40 0 [(0, .ref 0), (1, .int a0), (2, .ref 135)] [] (hp I J) _
  refine EV.l (lv' := [(0, _), (1, _), (2, _)]) r_L_book_0 rfl ?_
  refine EV.o r_L_book_1 (icN (0) (v := 0)) ?_
  refine EV.l (lv' := [(0, _), (1, _), (2, _)]) r_L_book_2 rfl ?_
  refine EV.l (lv' := [(0, _), (1, _), (2, _)]) r_L_book_3 rfl ?_
  refine EV.inv r_L_book_4.1 rfl (by decide) (aV1 mt_117 la_0) (Nat.le_of_ble_eq_true rfl) h (hp_len _ _ _ _) ?_
  show EV none M_L_book 40 7 [(0, .ref 0), (1, .int a0), (2, .ref 135)] [.int v, .int (nI 0), .ref 135] (hp I1 J) _
  refine EV.o r_L_book_7 rfl ?_
  refine EV.lastoreI r_L_book_8.1 la_135 rfl (by decide) (by decide) ?_
  refine EV.g r_L_book_9 ?_
  refine EV.o r_L_book_15 (icN (0) (v := 0)) ?_
  exact EV.ret r_L_book_16.1 rfl ⟨rfl, rfl, rfl⟩
theorem wx1_book {I I1 : Nat → Nat → Int32} {J : Nat → Nat → Int64} {a0 : Int32} (h : Cl 40 117 [.ref 0, .int a0] (hp I J) (.inr 1) (hp I1 J) 1) : Cl 41 294 [.ref 0, .int a0, .ref 135] (hp I J) (.inl (some (.int (nI 1)))) (hp I1 J) 1 := by
  refine Cl.of (CL.intro (M := M_L_book) mt_294 (Nat.le_of_ble_eq_true rfl) ?_)
  show EV none M_L_book 40 0 [(0, .ref 0), (1, .int a0), (2, .ref 135)] [] (hp I J) _
  refine EV.l (lv' := [(0, _), (1, _), (2, _)]) r_L_book_0 rfl ?_
  refine EV.o r_L_book_1 (icN (0) (v := 0)) ?_
  refine EV.l (lv' := [(0, _), (1, _), (2, _)]) r_L_book_2 rfl ?_
  refine EV.l (lv' := [(0, _), (1, _), (2, _)]) r_L_book_3 rfl ?_
  refine EV.cat (h := 12) (pc' := 13) (lv' := [(0, .ref 0), (1, .int a0), (2, .ref 135)]) r_L_book_4.1 rfl (by decide) (aV1 mt_117 la_0) (Nat.le_of_ble_eq_true rfl) h (hp_len _ _ _ _) (by decide) (by rfl) (by rfl) ?_
  refine EV.o r_L_book_13 (icN (1) (v := 1)) ?_
  exact EV.ret r_L_book_14.1 rfl ⟨rfl, rfl, rfl⟩
theorem wv_told {I I1 : Nat → Nat → Int32} {J : Nat → Nat → Int64} {v : Int32} {a0 : Int32} (h : Cl 40 120 [.ref 0, .int a0] (hp I J) (.inl (some (.int v))) (hp I1 J) 0) : Cl 41 295 [.ref 0, .int a0, .ref 135] (hp I J) (.inl (some (.int (nI 0)))) (hp I1 (wr J 135 0 v.toInt64)) 0 := by
  refine Cl.of (CL.intro (M := M_L_told) mt_295 (Nat.le_of_ble_eq_true rfl) ?_)
  show EV none M_L_told 40 0 [(0, .ref 0), (1, .int a0), (2, .ref 135)] [] (hp I J) _
  refine EV.l (lv' := [(0, _), (1, _), (2, _)]) r_L_told_0 rfl ?_
  refine EV.o r_L_told_1 (icN (0) (v := 0)) ?_
  refine EV.l (lv' := [(0, _), (1, _), (2, _)]) r_L_told_2 rfl ?_
  refine EV.l (lv' := [(0, _), (1, _), (2, _)]) r_L_told_3 rfl ?_
  refine EV.inv r_L_told_4.1 rfl (by decide) (aV1 mt_120 la_0) (Nat.le_of_ble_eq_true rfl) h (hp_len _ _ _ _) ?_
  show EV none M_L_told 40 7 [(0, .ref 0), (1, .int a0), (2, .ref 135)] [.int v, .int (nI 0), .ref 135] (hp I1 J) _
  refine EV.o r_L_told_7 rfl ?_
  refine EV.lastoreI r_L_told_8.1 la_135 rfl (by decide) (by decide) ?_
  refine EV.g r_L_told_9 ?_
  refine EV.o r_L_told_15 (icN (0) (v := 0)) ?_
  exact EV.ret r_L_told_16.1 rfl ⟨rfl, rfl, rfl⟩
theorem wx1_told {I I1 : Nat → Nat → Int32} {J : Nat → Nat → Int64} {a0 : Int32} (h : Cl 40 120 [.ref 0, .int a0] (hp I J) (.inr 1) (hp I1 J) 1) : Cl 41 295 [.ref 0, .int a0, .ref 135] (hp I J) (.inl (some (.int (nI 1)))) (hp I1 J) 1 := by
  refine Cl.of (CL.intro (M := M_L_told) mt_295 (Nat.le_of_ble_eq_true rfl) ?_)
  show EV none M_L_told 40 0 [(0, .ref 0), (1, .int a0), (2, .ref 135)] [] (hp I J) _
  refine EV.l (lv' := [(0, _), (1, _), (2, _)]) r_L_told_0 rfl ?_
  refine EV.o r_L_told_1 (icN (0) (v := 0)) ?_
  refine EV.l (lv' := [(0, _), (1, _), (2, _)]) r_L_told_2 rfl ?_
  refine EV.l (lv' := [(0, _), (1, _), (2, _)]) r_L_told_3 rfl ?_
  refine EV.cat (h := 12) (pc' := 13) (lv' := [(0, .ref 0), (1, .int a0), (2, .ref 135)]) r_L_told_4.1 rfl (by decide) (aV1 mt_120 la_0) (Nat.le_of_ble_eq_true rfl) h (hp_len _ _ _ _) (by decide) (by rfl) (by rfl) ?_
  refine EV.o r_L_told_13 (icN (1) (v := 1)) ?_
  exact EV.ret r_L_told_14.1 rfl ⟨rfl, rfl, rfl⟩
theorem wv_saying {I I1 : Nat → Nat → Int32} {J : Nat → Nat → Int64} {v : Int32} {a0 a1 : Int32} (h : Cl 40 122 [.ref 0, .int a0, .int a1] (hp I J) (.inl (some (.int v))) (hp I1 J) 0) : Cl 41 296 [.ref 0, .int a0, .int a1, .ref 135] (hp I J) (.inl (some (.int (nI 0)))) (hp I1 (wr J 135 0 v.toInt64)) 0 := by
  refine Cl.of (CL.intro (M := M_L_saying) mt_296 (Nat.le_of_ble_eq_true rfl) ?_)
  show EV none M_L_saying 40 0 [(0, .ref 0), (1, .int a0), (2, .int a1), (3, .ref 135)] [] (hp I J) _
  refine EV.l (lv' := [(0, _), (1, _), (2, _), (3, _)]) r_L_saying_0 rfl ?_
  refine EV.o r_L_saying_1 (icN (0) (v := 0)) ?_
  refine EV.l (lv' := [(0, _), (1, _), (2, _), (3, _)]) r_L_saying_2 rfl ?_
  refine EV.l (lv' := [(0, _), (1, _), (2, _), (3, _)]) r_L_saying_3 rfl ?_
  refine EV.l (lv' := [(0, _), (1, _), (2, _), (3, _)]) r_L_saying_4 rfl ?_
  refine EV.inv r_L_saying_5.1 rfl (by decide) (aV2 mt_122 la_0) (Nat.le_of_ble_eq_true rfl) h (hp_len _ _ _ _) ?_
  show EV none M_L_saying 40 8 [(0, .ref 0), (1, .int a0), (2, .int a1), (3, .ref 135)] [.int v, .int (nI 0), .ref 135] (hp I1 J) _
  refine EV.o r_L_saying_8 rfl ?_
  refine EV.lastoreI r_L_saying_9.1 la_135 rfl (by decide) (by decide) ?_
  refine EV.g r_L_saying_10 ?_
  refine EV.o r_L_saying_21 (icN (0) (v := 0)) ?_
  exact EV.ret r_L_saying_22.1 rfl ⟨rfl, rfl, rfl⟩
theorem wx0_saying {I I1 : Nat → Nat → Int32} {J : Nat → Nat → Int64} {a0 a1 : Int32} (h : Cl 40 122 [.ref 0, .int a0, .int a1] (hp I J) (.inr 0) (hp I1 J) 1) : Cl 41 296 [.ref 0, .int a0, .int a1, .ref 135] (hp I J) (.inl (some (.int (nI 1)))) (hp I1 J) 1 := by
  refine Cl.of (CL.intro (M := M_L_saying) mt_296 (Nat.le_of_ble_eq_true rfl) ?_)
  show EV none M_L_saying 40 0 [(0, .ref 0), (1, .int a0), (2, .int a1), (3, .ref 135)] [] (hp I J) _
  refine EV.l (lv' := [(0, _), (1, _), (2, _), (3, _)]) r_L_saying_0 rfl ?_
  refine EV.o r_L_saying_1 (icN (0) (v := 0)) ?_
  refine EV.l (lv' := [(0, _), (1, _), (2, _), (3, _)]) r_L_saying_2 rfl ?_
  refine EV.l (lv' := [(0, _), (1, _), (2, _), (3, _)]) r_L_saying_3 rfl ?_
  refine EV.l (lv' := [(0, _), (1, _), (2, _), (3, _)]) r_L_saying_4 rfl ?_
  refine EV.cat (h := 13) (pc' := 15) (lv' := [(0, .ref 0), (1, .int a0), (2, .int a1), (3, .ref 135)]) r_L_saying_5.1 rfl (by decide) (aV2 mt_122 la_0) (Nat.le_of_ble_eq_true rfl) h (hp_len _ _ _ _) (by decide) (by rfl) (by rfl) ?_
  refine EV.o r_L_saying_15 (icN (1) (v := 1)) ?_
  exact EV.ret r_L_saying_16.1 rfl ⟨rfl, rfl, rfl⟩
theorem wx1_saying {I I1 : Nat → Nat → Int32} {J : Nat → Nat → Int64} {a0 a1 : Int32} (h : Cl 40 122 [.ref 0, .int a0, .int a1] (hp I J) (.inr 1) (hp I1 J) 1) : Cl 41 296 [.ref 0, .int a0, .int a1, .ref 135] (hp I J) (.inl (some (.int (nI 2)))) (hp I1 J) 1 := by
  refine Cl.of (CL.intro (M := M_L_saying) mt_296 (Nat.le_of_ble_eq_true rfl) ?_)
  show EV none M_L_saying 40 0 [(0, .ref 0), (1, .int a0), (2, .int a1), (3, .ref 135)] [] (hp I J) _
  refine EV.l (lv' := [(0, _), (1, _), (2, _), (3, _)]) r_L_saying_0 rfl ?_
  refine EV.o r_L_saying_1 (icN (0) (v := 0)) ?_
  refine EV.l (lv' := [(0, _), (1, _), (2, _), (3, _)]) r_L_saying_2 rfl ?_
  refine EV.l (lv' := [(0, _), (1, _), (2, _), (3, _)]) r_L_saying_3 rfl ?_
  refine EV.l (lv' := [(0, _), (1, _), (2, _), (3, _)]) r_L_saying_4 rfl ?_
  refine EV.cat (h := 17) (pc' := 19) (lv' := [(0, .ref 0), (1, .int a0), (2, .int a1), (3, .ref 135)]) r_L_saying_5.1 rfl (by decide) (aV2 mt_122 la_0) (Nat.le_of_ble_eq_true rfl) h (hp_len _ _ _ _) (by decide) (by rfl) (by rfl) ?_
  refine EV.o r_L_saying_19 (icN (2) (v := 2)) ?_
  exact EV.ret r_L_saying_20.1 rfl ⟨rfl, rfl, rfl⟩
theorem wv_bird {I I1 : Nat → Nat → Int32} {J : Nat → Nat → Int64} {v : Int32} {a0 a1 : Int32} (h : Cl 40 123 [.ref 0, .int a0, .int a1] (hp I J) (.inl (some (.int v))) (hp I1 J) 0) : Cl 41 297 [.ref 0, .int a0, .int a1, .ref 135] (hp I J) (.inl (some (.int (nI 0)))) (hp I1 (wr J 135 0 v.toInt64)) 0 := by
  refine Cl.of (CL.intro (M := M_L_bird) mt_297 (Nat.le_of_ble_eq_true rfl) ?_)
  show EV none M_L_bird 40 0 [(0, .ref 0), (1, .int a0), (2, .int a1), (3, .ref 135)] [] (hp I J) _
  refine EV.l (lv' := [(0, _), (1, _), (2, _), (3, _)]) r_L_bird_0 rfl ?_
  refine EV.o r_L_bird_1 (icN (0) (v := 0)) ?_
  refine EV.l (lv' := [(0, _), (1, _), (2, _), (3, _)]) r_L_bird_2 rfl ?_
  refine EV.l (lv' := [(0, _), (1, _), (2, _), (3, _)]) r_L_bird_3 rfl ?_
  refine EV.l (lv' := [(0, _), (1, _), (2, _), (3, _)]) r_L_bird_4 rfl ?_
  refine EV.inv r_L_bird_5.1 rfl (by decide) (aV2 mt_123 la_0) (Nat.le_of_ble_eq_true rfl) h (hp_len _ _ _ _) ?_
  show EV none M_L_bird 40 8 [(0, .ref 0), (1, .int a0), (2, .int a1), (3, .ref 135)] [.int v, .int (nI 0), .ref 135] (hp I1 J) _
  refine EV.o r_L_bird_8 rfl ?_
  refine EV.lastoreI r_L_bird_9.1 la_135 rfl (by decide) (by decide) ?_
  refine EV.g r_L_bird_10 ?_
  refine EV.o r_L_bird_21 (icN (0) (v := 0)) ?_
  exact EV.ret r_L_bird_22.1 rfl ⟨rfl, rfl, rfl⟩
theorem wx0_bird {I I1 : Nat → Nat → Int32} {J : Nat → Nat → Int64} {a0 a1 : Int32} (h : Cl 40 123 [.ref 0, .int a0, .int a1] (hp I J) (.inr 0) (hp I1 J) 1) : Cl 41 297 [.ref 0, .int a0, .int a1, .ref 135] (hp I J) (.inl (some (.int (nI 1)))) (hp I1 J) 1 := by
  refine Cl.of (CL.intro (M := M_L_bird) mt_297 (Nat.le_of_ble_eq_true rfl) ?_)
  show EV none M_L_bird 40 0 [(0, .ref 0), (1, .int a0), (2, .int a1), (3, .ref 135)] [] (hp I J) _
  refine EV.l (lv' := [(0, _), (1, _), (2, _), (3, _)]) r_L_bird_0 rfl ?_
  refine EV.o r_L_bird_1 (icN (0) (v := 0)) ?_
  refine EV.l (lv' := [(0, _), (1, _), (2, _), (3, _)]) r_L_bird_2 rfl ?_
  refine EV.l (lv' := [(0, _), (1, _), (2, _), (3, _)]) r_L_bird_3 rfl ?_
  refine EV.l (lv' := [(0, _), (1, _), (2, _), (3, _)]) r_L_bird_4 rfl ?_
  refine EV.cat (h := 13) (pc' := 15) (lv' := [(0, .ref 0), (1, .int a0), (2, .int a1), (3, .ref 135)]) r_L_bird_5.1 rfl (by decide) (aV2 mt_123 la_0) (Nat.le_of_ble_eq_true rfl) h (hp_len _ _ _ _) (by decide) (by rfl) (by rfl) ?_
  refine EV.o r_L_bird_15 (icN (1) (v := 1)) ?_
  exact EV.ret r_L_bird_16.1 rfl ⟨rfl, rfl, rfl⟩
theorem wx1_bird {I I1 : Nat → Nat → Int32} {J : Nat → Nat → Int64} {a0 a1 : Int32} (h : Cl 40 123 [.ref 0, .int a0, .int a1] (hp I J) (.inr 1) (hp I1 J) 1) : Cl 41 297 [.ref 0, .int a0, .int a1, .ref 135] (hp I J) (.inl (some (.int (nI 2)))) (hp I1 J) 1 := by
  refine Cl.of (CL.intro (M := M_L_bird) mt_297 (Nat.le_of_ble_eq_true rfl) ?_)
  show EV none M_L_bird 40 0 [(0, .ref 0), (1, .int a0), (2, .int a1), (3, .ref 135)] [] (hp I J) _
  refine EV.l (lv' := [(0, _), (1, _), (2, _), (3, _)]) r_L_bird_0 rfl ?_
  refine EV.o r_L_bird_1 (icN (0) (v := 0)) ?_
  refine EV.l (lv' := [(0, _), (1, _), (2, _), (3, _)]) r_L_bird_2 rfl ?_
  refine EV.l (lv' := [(0, _), (1, _), (2, _), (3, _)]) r_L_bird_3 rfl ?_
  refine EV.l (lv' := [(0, _), (1, _), (2, _), (3, _)]) r_L_bird_4 rfl ?_
  refine EV.cat (h := 17) (pc' := 19) (lv' := [(0, .ref 0), (1, .int a0), (2, .int a1), (3, .ref 135)]) r_L_bird_5.1 rfl (by decide) (aV2 mt_123 la_0) (Nat.le_of_ble_eq_true rfl) h (hp_len _ _ _ _) (by decide) (by rfl) (by rfl) ?_
  refine EV.o r_L_bird_19 (icN (2) (v := 2)) ?_
  exact EV.ret r_L_bird_20.1 rfl ⟨rfl, rfl, rfl⟩
theorem wv_counsel {I I1 : Nat → Nat → Int32} {J : Nat → Nat → Int64} {v : Int32} {a0 a1 : Int32} (h : Cl 40 124 [.ref 0, .int a0, .int a1] (hp I J) (.inl (some (.int v))) (hp I1 J) 0) : Cl 41 298 [.ref 0, .int a0, .int a1, .ref 135] (hp I J) (.inl (some (.int (nI 0)))) (hp I1 (wr J 135 0 v.toInt64)) 0 := by
  refine Cl.of (CL.intro (M := M_L_counsel) mt_298 (Nat.le_of_ble_eq_true rfl) ?_)
  show EV none M_L_counsel 40 0 [(0, .ref 0), (1, .int a0), (2, .int a1), (3, .ref 135)] [] (hp I J) _
  refine EV.l (lv' := [(0, _), (1, _), (2, _), (3, _)]) r_L_counsel_0 rfl ?_
  refine EV.o r_L_counsel_1 (icN (0) (v := 0)) ?_
  refine EV.l (lv' := [(0, _), (1, _), (2, _), (3, _)]) r_L_counsel_2 rfl ?_
  refine EV.l (lv' := [(0, _), (1, _), (2, _), (3, _)]) r_L_counsel_3 rfl ?_
  refine EV.l (lv' := [(0, _), (1, _), (2, _), (3, _)]) r_L_counsel_4 rfl ?_
  refine EV.inv r_L_counsel_5.1 rfl (by decide) (aV2 mt_124 la_0) (Nat.le_of_ble_eq_true rfl) h (hp_len _ _ _ _) ?_
  show EV none M_L_counsel 40 8 [(0, .ref 0), (1, .int a0), (2, .int a1), (3, .ref 135)] [.int v, .int (nI 0), .ref 135] (hp I1 J) _
  refine EV.o r_L_counsel_8 rfl ?_
  refine EV.lastoreI r_L_counsel_9.1 la_135 rfl (by decide) (by decide) ?_
  refine EV.g r_L_counsel_10 ?_
  refine EV.o r_L_counsel_21 (icN (0) (v := 0)) ?_
  exact EV.ret r_L_counsel_22.1 rfl ⟨rfl, rfl, rfl⟩
theorem wx0_counsel {I I1 : Nat → Nat → Int32} {J : Nat → Nat → Int64} {a0 a1 : Int32} (h : Cl 40 124 [.ref 0, .int a0, .int a1] (hp I J) (.inr 0) (hp I1 J) 1) : Cl 41 298 [.ref 0, .int a0, .int a1, .ref 135] (hp I J) (.inl (some (.int (nI 1)))) (hp I1 J) 1 := by
  refine Cl.of (CL.intro (M := M_L_counsel) mt_298 (Nat.le_of_ble_eq_true rfl) ?_)
  show EV none M_L_counsel 40 0 [(0, .ref 0), (1, .int a0), (2, .int a1), (3, .ref 135)] [] (hp I J) _
  refine EV.l (lv' := [(0, _), (1, _), (2, _), (3, _)]) r_L_counsel_0 rfl ?_
  refine EV.o r_L_counsel_1 (icN (0) (v := 0)) ?_
  refine EV.l (lv' := [(0, _), (1, _), (2, _), (3, _)]) r_L_counsel_2 rfl ?_
  refine EV.l (lv' := [(0, _), (1, _), (2, _), (3, _)]) r_L_counsel_3 rfl ?_
  refine EV.l (lv' := [(0, _), (1, _), (2, _), (3, _)]) r_L_counsel_4 rfl ?_
  refine EV.cat (h := 13) (pc' := 15) (lv' := [(0, .ref 0), (1, .int a0), (2, .int a1), (3, .ref 135)]) r_L_counsel_5.1 rfl (by decide) (aV2 mt_124 la_0) (Nat.le_of_ble_eq_true rfl) h (hp_len _ _ _ _) (by decide) (by rfl) (by rfl) ?_
  refine EV.o r_L_counsel_15 (icN (1) (v := 1)) ?_
  exact EV.ret r_L_counsel_16.1 rfl ⟨rfl, rfl, rfl⟩
theorem wx1_counsel {I I1 : Nat → Nat → Int32} {J : Nat → Nat → Int64} {a0 a1 : Int32} (h : Cl 40 124 [.ref 0, .int a0, .int a1] (hp I J) (.inr 1) (hp I1 J) 1) : Cl 41 298 [.ref 0, .int a0, .int a1, .ref 135] (hp I J) (.inl (some (.int (nI 2)))) (hp I1 J) 1 := by
  refine Cl.of (CL.intro (M := M_L_counsel) mt_298 (Nat.le_of_ble_eq_true rfl) ?_)
  show EV none M_L_counsel 40 0 [(0, .ref 0), (1, .int a0), (2, .int a1), (3, .ref 135)] [] (hp I J) _
  refine EV.l (lv' := [(0, _), (1, _), (2, _), (3, _)]) r_L_counsel_0 rfl ?_
  refine EV.o r_L_counsel_1 (icN (0) (v := 0)) ?_
  refine EV.l (lv' := [(0, _), (1, _), (2, _), (3, _)]) r_L_counsel_2 rfl ?_
  refine EV.l (lv' := [(0, _), (1, _), (2, _), (3, _)]) r_L_counsel_3 rfl ?_
  refine EV.l (lv' := [(0, _), (1, _), (2, _), (3, _)]) r_L_counsel_4 rfl ?_
  refine EV.cat (h := 17) (pc' := 19) (lv' := [(0, .ref 0), (1, .int a0), (2, .int a1), (3, .ref 135)]) r_L_counsel_5.1 rfl (by decide) (aV2 mt_124 la_0) (Nat.le_of_ble_eq_true rfl) h (hp_len _ _ _ _) (by decide) (by rfl) (by rfl) ?_
  refine EV.o r_L_counsel_19 (icN (2) (v := 2)) ?_
  exact EV.ret r_L_counsel_20.1 rfl ⟨rfl, rfl, rfl⟩
theorem wv_would {I I1 : Nat → Nat → Int32} {J : Nat → Nat → Int64} {v : Int32} {a0 a1 a2 a3 a4 a5 : Int32} (h : Cl 40 125 [.ref 0, .int a0, .int a1, .int a2, .int a3, .int a4, .int a5] (hp I J) (.inl (some (.int v))) (hp I1 J) 0) : Cl 41 299 [.ref 0, .int a0, .int a1, .int a2, .int a3, .int a4, .int a5, .ref 135] (hp I J) (.inl (some (.int (nI 0)))) (hp I1 (wr J 135 0 v.toInt64)) 0 := by
  refine Cl.of (CL.intro (M := M_L_would) mt_299 (Nat.le_of_ble_eq_true rfl) ?_)
  show EV none M_L_would 40 0 [(0, .ref 0), (1, .int a0), (2, .int a1), (3, .int a2), (4, .int a3), (5, .int a4), (6, .int a5), (7, .ref 135)] [] (hp I J) _
  refine EV.l (lv' := [(0, _), (1, _), (2, _), (3, _), (4, _), (5, _), (6, _), (7, _)]) r_L_would_0 rfl ?_
  refine EV.o r_L_would_2 (icN (0) (v := 0)) ?_
  refine EV.l (lv' := [(0, _), (1, _), (2, _), (3, _), (4, _), (5, _), (6, _), (7, _)]) r_L_would_3 rfl ?_
  refine EV.l (lv' := [(0, _), (1, _), (2, _), (3, _), (4, _), (5, _), (6, _), (7, _)]) r_L_would_4 rfl ?_
  refine EV.l (lv' := [(0, _), (1, _), (2, _), (3, _), (4, _), (5, _), (6, _), (7, _)]) r_L_would_5 rfl ?_
  refine EV.l (lv' := [(0, _), (1, _), (2, _), (3, _), (4, _), (5, _), (6, _), (7, _)]) r_L_would_6 rfl ?_
  refine EV.l (lv' := [(0, _), (1, _), (2, _), (3, _), (4, _), (5, _), (6, _), (7, _)]) r_L_would_7 rfl ?_
  refine EV.l (lv' := [(0, _), (1, _), (2, _), (3, _), (4, _), (5, _), (6, _), (7, _)]) r_L_would_9 rfl ?_
  refine EV.l (lv' := [(0, _), (1, _), (2, _), (3, _), (4, _), (5, _), (6, _), (7, _)]) r_L_would_11 rfl ?_
  refine EV.inv r_L_would_13.1 rfl (by decide) (aV6 mt_125 la_0) (Nat.le_of_ble_eq_true rfl) h (hp_len _ _ _ _) ?_
  show EV none M_L_would 40 16 [(0, .ref 0), (1, .int a0), (2, .int a1), (3, .int a2), (4, .int a3), (5, .int a4), (6, .int a5), (7, .ref 135)] [.int v, .int (nI 0), .ref 135] (hp I1 J) _
  refine EV.o r_L_would_16 rfl ?_
  refine EV.lastoreI r_L_would_17.1 la_135 rfl (by decide) (by decide) ?_
  refine EV.g r_L_would_18 ?_
  refine EV.o r_L_would_25 (icN (0) (v := 0)) ?_
  exact EV.ret r_L_would_26.1 rfl ⟨rfl, rfl, rfl⟩
theorem wx1_would {I I1 : Nat → Nat → Int32} {J : Nat → Nat → Int64} {a0 a1 a2 a3 a4 a5 : Int32} (h : Cl 40 125 [.ref 0, .int a0, .int a1, .int a2, .int a3, .int a4, .int a5] (hp I J) (.inr 1) (hp I1 J) 1) : Cl 41 299 [.ref 0, .int a0, .int a1, .int a2, .int a3, .int a4, .int a5, .ref 135] (hp I J) (.inl (some (.int (nI 1)))) (hp I1 J) 1 := by
  refine Cl.of (CL.intro (M := M_L_would) mt_299 (Nat.le_of_ble_eq_true rfl) ?_)
  show EV none M_L_would 40 0 [(0, .ref 0), (1, .int a0), (2, .int a1), (3, .int a2), (4, .int a3), (5, .int a4), (6, .int a5), (7, .ref 135)] [] (hp I J) _
  refine EV.l (lv' := [(0, _), (1, _), (2, _), (3, _), (4, _), (5, _), (6, _), (7, _)]) r_L_would_0 rfl ?_
  refine EV.o r_L_would_2 (icN (0) (v := 0)) ?_
  refine EV.l (lv' := [(0, _), (1, _), (2, _), (3, _), (4, _), (5, _), (6, _), (7, _)]) r_L_would_3 rfl ?_
  refine EV.l (lv' := [(0, _), (1, _), (2, _), (3, _), (4, _), (5, _), (6, _), (7, _)]) r_L_would_4 rfl ?_
  refine EV.l (lv' := [(0, _), (1, _), (2, _), (3, _), (4, _), (5, _), (6, _), (7, _)]) r_L_would_5 rfl ?_
  refine EV.l (lv' := [(0, _), (1, _), (2, _), (3, _), (4, _), (5, _), (6, _), (7, _)]) r_L_would_6 rfl ?_
  refine EV.l (lv' := [(0, _), (1, _), (2, _), (3, _), (4, _), (5, _), (6, _), (7, _)]) r_L_would_7 rfl ?_
  refine EV.l (lv' := [(0, _), (1, _), (2, _), (3, _), (4, _), (5, _), (6, _), (7, _)]) r_L_would_9 rfl ?_
  refine EV.l (lv' := [(0, _), (1, _), (2, _), (3, _), (4, _), (5, _), (6, _), (7, _)]) r_L_would_11 rfl ?_
  refine EV.cat (h := 21) (pc' := 23) (lv' := [(0, .ref 0), (1, .int a0), (2, .int a1), (3, .int a2), (4, .int a3), (5, .int a4), (6, .int a5), (7, .ref 135)]) r_L_would_13.1 rfl (by decide) (aV6 mt_125 la_0) (Nat.le_of_ble_eq_true rfl) h (hp_len _ _ _ _) (by decide) (by rfl) (by rfl) ?_
  refine EV.o r_L_would_23 (icN (1) (v := 1)) ?_
  exact EV.ret r_L_would_24.1 rfl ⟨rfl, rfl, rfl⟩
theorem wv_at {I I1 : Nat → Nat → Int32} {J : Nat → Nat → Int64} {v : Int32} {a0 a1 : Int32} (h : Cl 40 126 [.ref 0, .int a0, .int a1] (hp I J) (.inl (some (.int v))) (hp I1 J) 0) : Cl 41 300 [.ref 0, .int a0, .int a1, .ref 135] (hp I J) (.inl (some (.int (nI 0)))) (hp I1 (wr J 135 0 v.toInt64)) 0 := by
  refine Cl.of (CL.intro (M := M_L_at) mt_300 (Nat.le_of_ble_eq_true rfl) ?_)
  show EV none M_L_at 40 0 [(0, .ref 0), (1, .int a0), (2, .int a1), (3, .ref 135)] [] (hp I J) _
  refine EV.l (lv' := [(0, _), (1, _), (2, _), (3, _)]) r_L_at_0 rfl ?_
  refine EV.o r_L_at_1 (icN (0) (v := 0)) ?_
  refine EV.l (lv' := [(0, _), (1, _), (2, _), (3, _)]) r_L_at_2 rfl ?_
  refine EV.l (lv' := [(0, _), (1, _), (2, _), (3, _)]) r_L_at_3 rfl ?_
  refine EV.l (lv' := [(0, _), (1, _), (2, _), (3, _)]) r_L_at_4 rfl ?_
  refine EV.inv r_L_at_5.1 rfl (by decide) (aV2 mt_126 la_0) (Nat.le_of_ble_eq_true rfl) h (hp_len _ _ _ _) ?_
  show EV none M_L_at 40 8 [(0, .ref 0), (1, .int a0), (2, .int a1), (3, .ref 135)] [.int v, .int (nI 0), .ref 135] (hp I1 J) _
  refine EV.o r_L_at_8 rfl ?_
  refine EV.lastoreI r_L_at_9.1 la_135 rfl (by decide) (by decide) ?_
  refine EV.g r_L_at_10 ?_
  refine EV.o r_L_at_17 (icN (0) (v := 0)) ?_
  exact EV.ret r_L_at_18.1 rfl ⟨rfl, rfl, rfl⟩
theorem wx1_at {I I1 : Nat → Nat → Int32} {J : Nat → Nat → Int64} {a0 a1 : Int32} (h : Cl 40 126 [.ref 0, .int a0, .int a1] (hp I J) (.inr 1) (hp I1 J) 1) : Cl 41 300 [.ref 0, .int a0, .int a1, .ref 135] (hp I J) (.inl (some (.int (nI 1)))) (hp I1 J) 1 := by
  refine Cl.of (CL.intro (M := M_L_at) mt_300 (Nat.le_of_ble_eq_true rfl) ?_)
  show EV none M_L_at 40 0 [(0, .ref 0), (1, .int a0), (2, .int a1), (3, .ref 135)] [] (hp I J) _
  refine EV.l (lv' := [(0, _), (1, _), (2, _), (3, _)]) r_L_at_0 rfl ?_
  refine EV.o r_L_at_1 (icN (0) (v := 0)) ?_
  refine EV.l (lv' := [(0, _), (1, _), (2, _), (3, _)]) r_L_at_2 rfl ?_
  refine EV.l (lv' := [(0, _), (1, _), (2, _), (3, _)]) r_L_at_3 rfl ?_
  refine EV.l (lv' := [(0, _), (1, _), (2, _), (3, _)]) r_L_at_4 rfl ?_
  refine EV.cat (h := 13) (pc' := 15) (lv' := [(0, .ref 0), (1, .int a0), (2, .int a1), (3, .ref 135)]) r_L_at_5.1 rfl (by decide) (aV2 mt_126 la_0) (Nat.le_of_ble_eq_true rfl) h (hp_len _ _ _ _) (by decide) (by rfl) (by rfl) ?_
  refine EV.o r_L_at_15 (icN (1) (v := 1)) ?_
  exact EV.ret r_L_at_16.1 rfl ⟨rfl, rfl, rfl⟩
theorem wv_hide {I I1 : Nat → Nat → Int32} {J : Nat → Nat → Int64} {v : Int32} {a0 a1 : Int32} (h : Cl 40 128 [.ref 0, .int a0, .int a1] (hp I J) (.inl (some (.int v))) (hp I1 J) 0) : Cl 41 301 [.ref 0, .int a0, .int a1, .ref 135] (hp I J) (.inl (some (.int (nI 0)))) (hp I1 (wr J 135 0 v.toInt64)) 0 := by
  refine Cl.of (CL.intro (M := M_L_hide) mt_301 (Nat.le_of_ble_eq_true rfl) ?_)
  show EV none M_L_hide 40 0 [(0, .ref 0), (1, .int a0), (2, .int a1), (3, .ref 135)] [] (hp I J) _
  refine EV.l (lv' := [(0, _), (1, _), (2, _), (3, _)]) r_L_hide_0 rfl ?_
  refine EV.o r_L_hide_1 (icN (0) (v := 0)) ?_
  refine EV.l (lv' := [(0, _), (1, _), (2, _), (3, _)]) r_L_hide_2 rfl ?_
  refine EV.l (lv' := [(0, _), (1, _), (2, _), (3, _)]) r_L_hide_3 rfl ?_
  refine EV.l (lv' := [(0, _), (1, _), (2, _), (3, _)]) r_L_hide_4 rfl ?_
  refine EV.inv r_L_hide_5.1 rfl (by decide) (aV2 mt_128 la_0) (Nat.le_of_ble_eq_true rfl) h (hp_len _ _ _ _) ?_
  show EV none M_L_hide 40 8 [(0, .ref 0), (1, .int a0), (2, .int a1), (3, .ref 135)] [.int v, .int (nI 0), .ref 135] (hp I1 J) _
  refine EV.o r_L_hide_8 rfl ?_
  refine EV.lastoreI r_L_hide_9.1 la_135 rfl (by decide) (by decide) ?_
  refine EV.g r_L_hide_10 ?_
  refine EV.o r_L_hide_17 (icN (0) (v := 0)) ?_
  exact EV.ret r_L_hide_18.1 rfl ⟨rfl, rfl, rfl⟩
theorem wx1_hide {I I1 : Nat → Nat → Int32} {J : Nat → Nat → Int64} {a0 a1 : Int32} (h : Cl 40 128 [.ref 0, .int a0, .int a1] (hp I J) (.inr 1) (hp I1 J) 1) : Cl 41 301 [.ref 0, .int a0, .int a1, .ref 135] (hp I J) (.inl (some (.int (nI 1)))) (hp I1 J) 1 := by
  refine Cl.of (CL.intro (M := M_L_hide) mt_301 (Nat.le_of_ble_eq_true rfl) ?_)
  show EV none M_L_hide 40 0 [(0, .ref 0), (1, .int a0), (2, .int a1), (3, .ref 135)] [] (hp I J) _
  refine EV.l (lv' := [(0, _), (1, _), (2, _), (3, _)]) r_L_hide_0 rfl ?_
  refine EV.o r_L_hide_1 (icN (0) (v := 0)) ?_
  refine EV.l (lv' := [(0, _), (1, _), (2, _), (3, _)]) r_L_hide_2 rfl ?_
  refine EV.l (lv' := [(0, _), (1, _), (2, _), (3, _)]) r_L_hide_3 rfl ?_
  refine EV.l (lv' := [(0, _), (1, _), (2, _), (3, _)]) r_L_hide_4 rfl ?_
  refine EV.cat (h := 13) (pc' := 15) (lv' := [(0, .ref 0), (1, .int a0), (2, .int a1), (3, .ref 135)]) r_L_hide_5.1 rfl (by decide) (aV2 mt_128 la_0) (Nat.le_of_ble_eq_true rfl) h (hp_len _ _ _ _) (by decide) (by rfl) (by rfl) ?_
  refine EV.o r_L_hide_15 (icN (1) (v := 1)) ?_
  exact EV.ret r_L_hide_16.1 rfl ⟨rfl, rfl, rfl⟩
theorem wv_follows {I I1 : Nat → Nat → Int32} {J : Nat → Nat → Int64} {v : Int32} {a0 : Int32} (h : Cl 40 129 [.ref 0, .int a0] (hp I J) (.inl (some (.int v))) (hp I1 J) 0) : Cl 41 302 [.ref 0, .int a0, .ref 135] (hp I J) (.inl (some (.int (nI 0)))) (hp I1 (wr J 135 0 v.toInt64)) 0 := by
  refine Cl.of (CL.intro (M := M_L_follows) mt_302 (Nat.le_of_ble_eq_true rfl) ?_)
  show EV none M_L_follows 40 0 [(0, .ref 0), (1, .int a0), (2, .ref 135)] [] (hp I J) _
  refine EV.l (lv' := [(0, _), (1, _), (2, _)]) r_L_follows_0 rfl ?_
  refine EV.o r_L_follows_1 (icN (0) (v := 0)) ?_
  refine EV.l (lv' := [(0, _), (1, _), (2, _)]) r_L_follows_2 rfl ?_
  refine EV.l (lv' := [(0, _), (1, _), (2, _)]) r_L_follows_3 rfl ?_
  refine EV.inv r_L_follows_4.1 rfl (by decide) (aV1 mt_129 la_0) (Nat.le_of_ble_eq_true rfl) h (hp_len _ _ _ _) ?_
  show EV none M_L_follows 40 7 [(0, .ref 0), (1, .int a0), (2, .ref 135)] [.int v, .int (nI 0), .ref 135] (hp I1 J) _
  refine EV.o r_L_follows_7 rfl ?_
  refine EV.lastoreI r_L_follows_8.1 la_135 rfl (by decide) (by decide) ?_
  refine EV.g r_L_follows_9 ?_
  refine EV.o r_L_follows_15 (icN (0) (v := 0)) ?_
  exact EV.ret r_L_follows_16.1 rfl ⟨rfl, rfl, rfl⟩
theorem wx1_follows {I I1 : Nat → Nat → Int32} {J : Nat → Nat → Int64} {a0 : Int32} (h : Cl 40 129 [.ref 0, .int a0] (hp I J) (.inr 1) (hp I1 J) 1) : Cl 41 302 [.ref 0, .int a0, .ref 135] (hp I J) (.inl (some (.int (nI 1)))) (hp I1 J) 1 := by
  refine Cl.of (CL.intro (M := M_L_follows) mt_302 (Nat.le_of_ble_eq_true rfl) ?_)
  show EV none M_L_follows 40 0 [(0, .ref 0), (1, .int a0), (2, .ref 135)] [] (hp I J) _
  refine EV.l (lv' := [(0, _), (1, _), (2, _)]) r_L_follows_0 rfl ?_
  refine EV.o r_L_follows_1 (icN (0) (v := 0)) ?_
  refine EV.l (lv' := [(0, _), (1, _), (2, _)]) r_L_follows_2 rfl ?_
  refine EV.l (lv' := [(0, _), (1, _), (2, _)]) r_L_follows_3 rfl ?_
  refine EV.cat (h := 12) (pc' := 13) (lv' := [(0, .ref 0), (1, .int a0), (2, .ref 135)]) r_L_follows_4.1 rfl (by decide) (aV1 mt_129 la_0) (Nat.le_of_ble_eq_true rfl) h (hp_len _ _ _ _) (by decide) (by rfl) (by rfl) ?_
  refine EV.o r_L_follows_13 (icN (1) (v := 1)) ?_
  exact EV.ret r_L_follows_14.1 rfl ⟨rfl, rfl, rfl⟩
theorem wv_proof {I I1 : Nat → Nat → Int32} {J : Nat → Nat → Int64} {v : Int32} {a0 : Int32} (h : Cl 40 130 [.ref 0, .int a0] (hp I J) (.inl (some (.int v))) (hp I1 J) 0) : Cl 41 303 [.ref 0, .int a0, .ref 135] (hp I J) (.inl (some (.int (nI 0)))) (hp I1 (wr J 135 0 v.toInt64)) 0 := by
  refine Cl.of (CL.intro (M := M_L_proof) mt_303 (Nat.le_of_ble_eq_true rfl) ?_)
  show EV none M_L_proof 40 0 [(0, .ref 0), (1, .int a0), (2, .ref 135)] [] (hp I J) _
  refine EV.l (lv' := [(0, _), (1, _), (2, _)]) r_L_proof_0 rfl ?_
  refine EV.o r_L_proof_1 (icN (0) (v := 0)) ?_
  refine EV.l (lv' := [(0, _), (1, _), (2, _)]) r_L_proof_2 rfl ?_
  refine EV.l (lv' := [(0, _), (1, _), (2, _)]) r_L_proof_3 rfl ?_
  refine EV.inv r_L_proof_4.1 rfl (by decide) (aV1 mt_130 la_0) (Nat.le_of_ble_eq_true rfl) h (hp_len _ _ _ _) ?_
  show EV none M_L_proof 40 7 [(0, .ref 0), (1, .int a0), (2, .ref 135)] [.int v, .int (nI 0), .ref 135] (hp I1 J) _
  refine EV.o r_L_proof_7 rfl ?_
  refine EV.lastoreI r_L_proof_8.1 la_135 rfl (by decide) (by decide) ?_
  refine EV.g r_L_proof_9 ?_
  refine EV.o r_L_proof_15 (icN (0) (v := 0)) ?_
  exact EV.ret r_L_proof_16.1 rfl ⟨rfl, rfl, rfl⟩
theorem wx0_proof {I I1 : Nat → Nat → Int32} {J : Nat → Nat → Int64} {a0 : Int32} (h : Cl 40 130 [.ref 0, .int a0] (hp I J) (.inr 0) (hp I1 J) 1) : Cl 41 303 [.ref 0, .int a0, .ref 135] (hp I J) (.inl (some (.int (nI 1)))) (hp I1 J) 1 := by
  refine Cl.of (CL.intro (M := M_L_proof) mt_303 (Nat.le_of_ble_eq_true rfl) ?_)
  show EV none M_L_proof 40 0 [(0, .ref 0), (1, .int a0), (2, .ref 135)] [] (hp I J) _
  refine EV.l (lv' := [(0, _), (1, _), (2, _)]) r_L_proof_0 rfl ?_
  refine EV.o r_L_proof_1 (icN (0) (v := 0)) ?_
  refine EV.l (lv' := [(0, _), (1, _), (2, _)]) r_L_proof_2 rfl ?_
  refine EV.l (lv' := [(0, _), (1, _), (2, _)]) r_L_proof_3 rfl ?_
  refine EV.cat (h := 12) (pc' := 13) (lv' := [(0, .ref 0), (1, .int a0), (2, .ref 135)]) r_L_proof_4.1 rfl (by decide) (aV1 mt_130 la_0) (Nat.le_of_ble_eq_true rfl) h (hp_len _ _ _ _) (by decide) (by rfl) (by rfl) ?_
  refine EV.o r_L_proof_13 (icN (1) (v := 1)) ?_
  exact EV.ret r_L_proof_14.1 rfl ⟨rfl, rfl, rfl⟩
theorem wv_fits {I I1 : Nat → Nat → Int32} {J : Nat → Nat → Int64} {v : Int32} {a0 : Int32} (h : Cl 40 132 [.ref 0, .int a0] (hp I J) (.inl (some (.int v))) (hp I1 J) 0) : Cl 41 304 [.ref 0, .int a0, .ref 135] (hp I J) (.inl (some (.int (nI 0)))) (hp I1 (wr J 135 0 v.toInt64)) 0 := by
  refine Cl.of (CL.intro (M := M_L_fits) mt_304 (Nat.le_of_ble_eq_true rfl) ?_)
  show EV none M_L_fits 40 0 [(0, .ref 0), (1, .int a0), (2, .ref 135)] [] (hp I J) _
  refine EV.l (lv' := [(0, _), (1, _), (2, _)]) r_L_fits_0 rfl ?_
  refine EV.o r_L_fits_1 (icN (0) (v := 0)) ?_
  refine EV.l (lv' := [(0, _), (1, _), (2, _)]) r_L_fits_2 rfl ?_
  refine EV.l (lv' := [(0, _), (1, _), (2, _)]) r_L_fits_3 rfl ?_
  refine EV.inv r_L_fits_4.1 rfl (by decide) (aV1 mt_132 la_0) (Nat.le_of_ble_eq_true rfl) h (hp_len _ _ _ _) ?_
  show EV none M_L_fits 40 7 [(0, .ref 0), (1, .int a0), (2, .ref 135)] [.int v, .int (nI 0), .ref 135] (hp I1 J) _
  refine EV.o r_L_fits_7 rfl ?_
  refine EV.lastoreI r_L_fits_8.1 la_135 rfl (by decide) (by decide) ?_
  refine EV.g r_L_fits_9 ?_
  refine EV.o r_L_fits_15 (icN (0) (v := 0)) ?_
  exact EV.ret r_L_fits_16.1 rfl ⟨rfl, rfl, rfl⟩
theorem wx1_fits {I I1 : Nat → Nat → Int32} {J : Nat → Nat → Int64} {a0 : Int32} (h : Cl 40 132 [.ref 0, .int a0] (hp I J) (.inr 1) (hp I1 J) 1) : Cl 41 304 [.ref 0, .int a0, .ref 135] (hp I J) (.inl (some (.int (nI 1)))) (hp I1 J) 1 := by
  refine Cl.of (CL.intro (M := M_L_fits) mt_304 (Nat.le_of_ble_eq_true rfl) ?_)
  show EV none M_L_fits 40 0 [(0, .ref 0), (1, .int a0), (2, .ref 135)] [] (hp I J) _
  refine EV.l (lv' := [(0, _), (1, _), (2, _)]) r_L_fits_0 rfl ?_
  refine EV.o r_L_fits_1 (icN (0) (v := 0)) ?_
  refine EV.l (lv' := [(0, _), (1, _), (2, _)]) r_L_fits_2 rfl ?_
  refine EV.l (lv' := [(0, _), (1, _), (2, _)]) r_L_fits_3 rfl ?_
  refine EV.cat (h := 12) (pc' := 13) (lv' := [(0, .ref 0), (1, .int a0), (2, .ref 135)]) r_L_fits_4.1 rfl (by decide) (aV1 mt_132 la_0) (Nat.le_of_ble_eq_true rfl) h (hp_len _ _ _ _) (by decide) (by rfl) (by rfl) ?_
  refine EV.o r_L_fits_13 (icN (1) (v := 1)) ?_
  exact EV.ret r_L_fits_14.1 rfl ⟨rfl, rfl, rfl⟩
theorem wv_look {I I1 : Nat → Nat → Int32} {J : Nat → Nat → Int64} {v : Int32} {a0 : Int32} (h : Cl 40 133 [.ref 0, .int a0] (hp I J) (.inl (some (.int v))) (hp I1 J) 0) : Cl 41 305 [.ref 0, .int a0, .ref 135] (hp I J) (.inl (some (.int (nI 0)))) (hp I1 (wr J 135 0 v.toInt64)) 0 := by
  refine Cl.of (CL.intro (M := M_L_look) mt_305 (Nat.le_of_ble_eq_true rfl) ?_)
  show EV none M_L_look 40 0 [(0, .ref 0), (1, .int a0), (2, .ref 135)] [] (hp I J) _
  refine EV.l (lv' := [(0, _), (1, _), (2, _)]) r_L_look_0 rfl ?_
  refine EV.o r_L_look_1 (icN (0) (v := 0)) ?_
  refine EV.l (lv' := [(0, _), (1, _), (2, _)]) r_L_look_2 rfl ?_
  refine EV.l (lv' := [(0, _), (1, _), (2, _)]) r_L_look_3 rfl ?_
  refine EV.inv r_L_look_4.1 rfl (by decide) (aV1 mt_133 la_0) (Nat.le_of_ble_eq_true rfl) h (hp_len _ _ _ _) ?_
  show EV none M_L_look 40 7 [(0, .ref 0), (1, .int a0), (2, .ref 135)] [.int v, .int (nI 0), .ref 135] (hp I1 J) _
  refine EV.o r_L_look_7 rfl ?_
  refine EV.lastoreI r_L_look_8.1 la_135 rfl (by decide) (by decide) ?_
  refine EV.g r_L_look_9 ?_
  refine EV.o r_L_look_15 (icN (0) (v := 0)) ?_
  exact EV.ret r_L_look_16.1 rfl ⟨rfl, rfl, rfl⟩
theorem wx1_look {I I1 : Nat → Nat → Int32} {J : Nat → Nat → Int64} {a0 : Int32} (h : Cl 40 133 [.ref 0, .int a0] (hp I J) (.inr 1) (hp I1 J) 1) : Cl 41 305 [.ref 0, .int a0, .ref 135] (hp I J) (.inl (some (.int (nI 1)))) (hp I1 J) 1 := by
  refine Cl.of (CL.intro (M := M_L_look) mt_305 (Nat.le_of_ble_eq_true rfl) ?_)
  show EV none M_L_look 40 0 [(0, .ref 0), (1, .int a0), (2, .ref 135)] [] (hp I J) _
  refine EV.l (lv' := [(0, _), (1, _), (2, _)]) r_L_look_0 rfl ?_
  refine EV.o r_L_look_1 (icN (0) (v := 0)) ?_
  refine EV.l (lv' := [(0, _), (1, _), (2, _)]) r_L_look_2 rfl ?_
  refine EV.l (lv' := [(0, _), (1, _), (2, _)]) r_L_look_3 rfl ?_
  refine EV.cat (h := 12) (pc' := 13) (lv' := [(0, .ref 0), (1, .int a0), (2, .ref 135)]) r_L_look_4.1 rfl (by decide) (aV1 mt_133 la_0) (Nat.le_of_ble_eq_true rfl) h (hp_len _ _ _ _) (by decide) (by rfl) (by rfl) ?_
  refine EV.o r_L_look_13 (icN (1) (v := 1)) ?_
  exact EV.ret r_L_look_14.1 rfl ⟨rfl, rfl, rfl⟩
theorem wv_kind {I I1 : Nat → Nat → Int32} {J : Nat → Nat → Int64} {v : Int64} {a0 a1 a2 a3 : Int32} (h : Cl 40 134 [.ref 0, .int a0, .int a1, .int a2, .int a3] (hp I J) (.inl (some (.long v))) (hp I1 J) 0) : Cl 41 306 [.ref 0, .int a0, .int a1, .int a2, .int a3, .ref 135] (hp I J) (.inl (some (.int (nI 0)))) (hp I1 (wr J 135 0 v)) 0 := by
  refine Cl.of (CL.intro (M := M_L_kind) mt_306 (Nat.le_of_ble_eq_true rfl) ?_)
  show EV none M_L_kind 40 0 [(0, .ref 0), (1, .int a0), (2, .int a1), (3, .int a2), (4, .int a3), (5, .ref 135)] [] (hp I J) _
  refine EV.l (lv' := [(0, _), (1, _), (2, _), (3, _), (4, _), (5, _)]) r_L_kind_0 rfl ?_
  refine EV.o r_L_kind_2 (icN (0) (v := 0)) ?_
  refine EV.l (lv' := [(0, _), (1, _), (2, _), (3, _), (4, _), (5, _)]) r_L_kind_3 rfl ?_
  refine EV.l (lv' := [(0, _), (1, _), (2, _), (3, _), (4, _), (5, _)]) r_L_kind_4 rfl ?_
  refine EV.l (lv' := [(0, _), (1, _), (2, _), (3, _), (4, _), (5, _)]) r_L_kind_5 rfl ?_
  refine EV.l (lv' := [(0, _), (1, _), (2, _), (3, _), (4, _), (5, _)]) r_L_kind_6 rfl ?_
  refine EV.l (lv' := [(0, _), (1, _), (2, _), (3, _), (4, _), (5, _)]) r_L_kind_7 rfl ?_
  refine EV.inv r_L_kind_9.1 rfl (by decide) (aV4 mt_134 la_0) (Nat.le_of_ble_eq_true rfl) h (hp_len _ _ _ _) ?_
  show EV none M_L_kind 40 12 [(0, .ref 0), (1, .int a0), (2, .int a1), (3, .int a2), (4, .int a3), (5, .ref 135)] [.long v, .int (nI 0), .ref 135] (hp I1 J) _
  refine EV.lastoreI r_L_kind_12.1 la_135 rfl (by decide) (by decide) ?_
  refine EV.g r_L_kind_13 ?_
  refine EV.o r_L_kind_20 (icN (0) (v := 0)) ?_
  exact EV.ret r_L_kind_21.1 rfl ⟨rfl, rfl, rfl⟩
theorem wx1_kind {I I1 : Nat → Nat → Int32} {J : Nat → Nat → Int64} {a0 a1 a2 a3 : Int32} (h : Cl 40 134 [.ref 0, .int a0, .int a1, .int a2, .int a3] (hp I J) (.inr 1) (hp I1 J) 1) : Cl 41 306 [.ref 0, .int a0, .int a1, .int a2, .int a3, .ref 135] (hp I J) (.inl (some (.int (nI 1)))) (hp I1 J) 1 := by
  refine Cl.of (CL.intro (M := M_L_kind) mt_306 (Nat.le_of_ble_eq_true rfl) ?_)
  show EV none M_L_kind 40 0 [(0, .ref 0), (1, .int a0), (2, .int a1), (3, .int a2), (4, .int a3), (5, .ref 135)] [] (hp I J) _
  refine EV.l (lv' := [(0, _), (1, _), (2, _), (3, _), (4, _), (5, _)]) r_L_kind_0 rfl ?_
  refine EV.o r_L_kind_2 (icN (0) (v := 0)) ?_
  refine EV.l (lv' := [(0, _), (1, _), (2, _), (3, _), (4, _), (5, _)]) r_L_kind_3 rfl ?_
  refine EV.l (lv' := [(0, _), (1, _), (2, _), (3, _), (4, _), (5, _)]) r_L_kind_4 rfl ?_
  refine EV.l (lv' := [(0, _), (1, _), (2, _), (3, _), (4, _), (5, _)]) r_L_kind_5 rfl ?_
  refine EV.l (lv' := [(0, _), (1, _), (2, _), (3, _), (4, _), (5, _)]) r_L_kind_6 rfl ?_
  refine EV.l (lv' := [(0, _), (1, _), (2, _), (3, _), (4, _), (5, _)]) r_L_kind_7 rfl ?_
  refine EV.cat (h := 16) (pc' := 18) (lv' := [(0, .ref 0), (1, .int a0), (2, .int a1), (3, .int a2), (4, .int a3), (5, .ref 135)]) r_L_kind_9.1 rfl (by decide) (aV4 mt_134 la_0) (Nat.le_of_ble_eq_true rfl) h (hp_len _ _ _ _) (by decide) (by rfl) (by rfl) ?_
  refine EV.o r_L_kind_18 (icN (1) (v := 1)) ?_
  exact EV.ret r_L_kind_19.1 rfl ⟨rfl, rfl, rfl⟩
theorem wv_order {I I1 : Nat → Nat → Int32} {J : Nat → Nat → Int64} {v : Int32} {a0 a1 a2 : Int32} (h : Cl 40 135 [.ref 0, .int a0, .int a1, .int a2] (hp I J) (.inl (some (.int v))) (hp I1 J) 0) : Cl 41 307 [.ref 0, .int a0, .int a1, .int a2, .ref 135] (hp I J) (.inl (some (.int (nI 0)))) (hp I1 (wr J 135 0 v.toInt64)) 0 := by
  refine Cl.of (CL.intro (M := M_L_order) mt_307 (Nat.le_of_ble_eq_true rfl) ?_)
  show EV none M_L_order 40 0 [(0, .ref 0), (1, .int a0), (2, .int a1), (3, .int a2), (4, .ref 135)] [] (hp I J) _
  refine EV.l (lv' := [(0, _), (1, _), (2, _), (3, _), (4, _)]) r_L_order_0 rfl ?_
  refine EV.o r_L_order_2 (icN (0) (v := 0)) ?_
  refine EV.l (lv' := [(0, _), (1, _), (2, _), (3, _), (4, _)]) r_L_order_3 rfl ?_
  refine EV.l (lv' := [(0, _), (1, _), (2, _), (3, _), (4, _)]) r_L_order_4 rfl ?_
  refine EV.l (lv' := [(0, _), (1, _), (2, _), (3, _), (4, _)]) r_L_order_5 rfl ?_
  refine EV.l (lv' := [(0, _), (1, _), (2, _), (3, _), (4, _)]) r_L_order_6 rfl ?_
  refine EV.inv r_L_order_7.1 rfl (by decide) (aV3 mt_135 la_0) (Nat.le_of_ble_eq_true rfl) h (hp_len _ _ _ _) ?_
  show EV none M_L_order 40 10 [(0, .ref 0), (1, .int a0), (2, .int a1), (3, .int a2), (4, .ref 135)] [.int v, .int (nI 0), .ref 135] (hp I1 J) _
  refine EV.o r_L_order_10 rfl ?_
  refine EV.lastoreI r_L_order_11.1 la_135 rfl (by decide) (by decide) ?_
  refine EV.g r_L_order_12 ?_
  refine EV.o r_L_order_19 (icN (0) (v := 0)) ?_
  exact EV.ret r_L_order_20.1 rfl ⟨rfl, rfl, rfl⟩
theorem wx1_order {I I1 : Nat → Nat → Int32} {J : Nat → Nat → Int64} {a0 a1 a2 : Int32} (h : Cl 40 135 [.ref 0, .int a0, .int a1, .int a2] (hp I J) (.inr 1) (hp I1 J) 1) : Cl 41 307 [.ref 0, .int a0, .int a1, .int a2, .ref 135] (hp I J) (.inl (some (.int (nI 1)))) (hp I1 J) 1 := by
  refine Cl.of (CL.intro (M := M_L_order) mt_307 (Nat.le_of_ble_eq_true rfl) ?_)
  show EV none M_L_order 40 0 [(0, .ref 0), (1, .int a0), (2, .int a1), (3, .int a2), (4, .ref 135)] [] (hp I J) _
  refine EV.l (lv' := [(0, _), (1, _), (2, _), (3, _), (4, _)]) r_L_order_0 rfl ?_
  refine EV.o r_L_order_2 (icN (0) (v := 0)) ?_
  refine EV.l (lv' := [(0, _), (1, _), (2, _), (3, _), (4, _)]) r_L_order_3 rfl ?_
  refine EV.l (lv' := [(0, _), (1, _), (2, _), (3, _), (4, _)]) r_L_order_4 rfl ?_
  refine EV.l (lv' := [(0, _), (1, _), (2, _), (3, _), (4, _)]) r_L_order_5 rfl ?_
  refine EV.l (lv' := [(0, _), (1, _), (2, _), (3, _), (4, _)]) r_L_order_6 rfl ?_
  refine EV.cat (h := 15) (pc' := 17) (lv' := [(0, .ref 0), (1, .int a0), (2, .int a1), (3, .int a2), (4, .ref 135)]) r_L_order_7.1 rfl (by decide) (aV3 mt_135 la_0) (Nat.le_of_ble_eq_true rfl) h (hp_len _ _ _ _) (by decide) (by rfl) (by rfl) ?_
  refine EV.o r_L_order_17 (icN (1) (v := 1)) ?_
  exact EV.ret r_L_order_18.1 rfl ⟨rfl, rfl, rfl⟩
theorem wv_loaf {I I1 : Nat → Nat → Int32} {J : Nat → Nat → Int64} {v : Int32} {a0 a1 a2 : Int32} (h : Cl 40 136 [.ref 0, .int a0, .int a1, .int a2] (hp I J) (.inl (some (.int v))) (hp I1 J) 0) : Cl 41 308 [.ref 0, .int a0, .int a1, .int a2, .ref 135] (hp I J) (.inl (some (.int (nI 0)))) (hp I1 (wr J 135 0 v.toInt64)) 0 := by
  refine Cl.of (CL.intro (M := M_L_loaf) mt_308 (Nat.le_of_ble_eq_true rfl) ?_)
  show EV none M_L_loaf 40 0 [(0, .ref 0), (1, .int a0), (2, .int a1), (3, .int a2), (4, .ref 135)] [] (hp I J) _
  refine EV.l (lv' := [(0, _), (1, _), (2, _), (3, _), (4, _)]) r_L_loaf_0 rfl ?_
  refine EV.o r_L_loaf_2 (icN (0) (v := 0)) ?_
  refine EV.l (lv' := [(0, _), (1, _), (2, _), (3, _), (4, _)]) r_L_loaf_3 rfl ?_
  refine EV.l (lv' := [(0, _), (1, _), (2, _), (3, _), (4, _)]) r_L_loaf_4 rfl ?_
  refine EV.l (lv' := [(0, _), (1, _), (2, _), (3, _), (4, _)]) r_L_loaf_5 rfl ?_
  refine EV.l (lv' := [(0, _), (1, _), (2, _), (3, _), (4, _)]) r_L_loaf_6 rfl ?_
  refine EV.inv r_L_loaf_7.1 rfl (by decide) (aV3 mt_136 la_0) (Nat.le_of_ble_eq_true rfl) h (hp_len _ _ _ _) ?_
  show EV none M_L_loaf 40 10 [(0, .ref 0), (1, .int a0), (2, .int a1), (3, .int a2), (4, .ref 135)] [.int v, .int (nI 0), .ref 135] (hp I1 J) _
  refine EV.o r_L_loaf_10 rfl ?_
  refine EV.lastoreI r_L_loaf_11.1 la_135 rfl (by decide) (by decide) ?_
  refine EV.g r_L_loaf_12 ?_
  refine EV.o r_L_loaf_23 (icN (0) (v := 0)) ?_
  exact EV.ret r_L_loaf_24.1 rfl ⟨rfl, rfl, rfl⟩
theorem wx0_loaf {I I1 : Nat → Nat → Int32} {J : Nat → Nat → Int64} {a0 a1 a2 : Int32} (h : Cl 40 136 [.ref 0, .int a0, .int a1, .int a2] (hp I J) (.inr 0) (hp I1 J) 1) : Cl 41 308 [.ref 0, .int a0, .int a1, .int a2, .ref 135] (hp I J) (.inl (some (.int (nI 1)))) (hp I1 J) 1 := by
  refine Cl.of (CL.intro (M := M_L_loaf) mt_308 (Nat.le_of_ble_eq_true rfl) ?_)
  show EV none M_L_loaf 40 0 [(0, .ref 0), (1, .int a0), (2, .int a1), (3, .int a2), (4, .ref 135)] [] (hp I J) _
  refine EV.l (lv' := [(0, _), (1, _), (2, _), (3, _), (4, _)]) r_L_loaf_0 rfl ?_
  refine EV.o r_L_loaf_2 (icN (0) (v := 0)) ?_
  refine EV.l (lv' := [(0, _), (1, _), (2, _), (3, _), (4, _)]) r_L_loaf_3 rfl ?_
  refine EV.l (lv' := [(0, _), (1, _), (2, _), (3, _), (4, _)]) r_L_loaf_4 rfl ?_
  refine EV.l (lv' := [(0, _), (1, _), (2, _), (3, _), (4, _)]) r_L_loaf_5 rfl ?_
  refine EV.l (lv' := [(0, _), (1, _), (2, _), (3, _), (4, _)]) r_L_loaf_6 rfl ?_
  refine EV.cat (h := 15) (pc' := 17) (lv' := [(0, .ref 0), (1, .int a0), (2, .int a1), (3, .int a2), (4, .ref 135)]) r_L_loaf_7.1 rfl (by decide) (aV3 mt_136 la_0) (Nat.le_of_ble_eq_true rfl) h (hp_len _ _ _ _) (by decide) (by rfl) (by rfl) ?_
  refine EV.o r_L_loaf_17 (icN (1) (v := 1)) ?_
  exact EV.ret r_L_loaf_18.1 rfl ⟨rfl, rfl, rfl⟩
theorem wx1_loaf {I I1 : Nat → Nat → Int32} {J : Nat → Nat → Int64} {a0 a1 a2 : Int32} (h : Cl 40 136 [.ref 0, .int a0, .int a1, .int a2] (hp I J) (.inr 1) (hp I1 J) 1) : Cl 41 308 [.ref 0, .int a0, .int a1, .int a2, .ref 135] (hp I J) (.inl (some (.int (nI 2)))) (hp I1 J) 1 := by
  refine Cl.of (CL.intro (M := M_L_loaf) mt_308 (Nat.le_of_ble_eq_true rfl) ?_)
  show EV none M_L_loaf 40 0 [(0, .ref 0), (1, .int a0), (2, .int a1), (3, .int a2), (4, .ref 135)] [] (hp I J) _
  refine EV.l (lv' := [(0, _), (1, _), (2, _), (3, _), (4, _)]) r_L_loaf_0 rfl ?_
  refine EV.o r_L_loaf_2 (icN (0) (v := 0)) ?_
  refine EV.l (lv' := [(0, _), (1, _), (2, _), (3, _), (4, _)]) r_L_loaf_3 rfl ?_
  refine EV.l (lv' := [(0, _), (1, _), (2, _), (3, _), (4, _)]) r_L_loaf_4 rfl ?_
  refine EV.l (lv' := [(0, _), (1, _), (2, _), (3, _), (4, _)]) r_L_loaf_5 rfl ?_
  refine EV.l (lv' := [(0, _), (1, _), (2, _), (3, _), (4, _)]) r_L_loaf_6 rfl ?_
  refine EV.cat (h := 19) (pc' := 21) (lv' := [(0, .ref 0), (1, .int a0), (2, .int a1), (3, .int a2), (4, .ref 135)]) r_L_loaf_7.1 rfl (by decide) (aV3 mt_136 la_0) (Nat.le_of_ble_eq_true rfl) h (hp_len _ _ _ _) (by decide) (by rfl) (by rfl) ?_
  refine EV.o r_L_loaf_21 (icN (2) (v := 2)) ?_
  exact EV.ret r_L_loaf_22.1 rfl ⟨rfl, rfl, rfl⟩
theorem wv_loss {I I1 : Nat → Nat → Int32} {J : Nat → Nat → Int64} {v : Int32} {a0 : Int32} (h : Cl 40 137 [.ref 0, .int a0] (hp I J) (.inl (some (.int v))) (hp I1 J) 0) : Cl 41 309 [.ref 0, .int a0, .ref 135] (hp I J) (.inl (some (.int (nI 0)))) (hp I1 (wr J 135 0 v.toInt64)) 0 := by
  refine Cl.of (CL.intro (M := M_L_loss) mt_309 (Nat.le_of_ble_eq_true rfl) ?_)
  show EV none M_L_loss 40 0 [(0, .ref 0), (1, .int a0), (2, .ref 135)] [] (hp I J) _
  refine EV.l (lv' := [(0, _), (1, _), (2, _)]) r_L_loss_0 rfl ?_
  refine EV.o r_L_loss_1 (icN (0) (v := 0)) ?_
  refine EV.l (lv' := [(0, _), (1, _), (2, _)]) r_L_loss_2 rfl ?_
  refine EV.l (lv' := [(0, _), (1, _), (2, _)]) r_L_loss_3 rfl ?_
  refine EV.inv r_L_loss_4.1 rfl (by decide) (aV1 mt_137 la_0) (Nat.le_of_ble_eq_true rfl) h (hp_len _ _ _ _) ?_
  show EV none M_L_loss 40 7 [(0, .ref 0), (1, .int a0), (2, .ref 135)] [.int v, .int (nI 0), .ref 135] (hp I1 J) _
  refine EV.o r_L_loss_7 rfl ?_
  refine EV.lastoreI r_L_loss_8.1 la_135 rfl (by decide) (by decide) ?_
  refine EV.g r_L_loss_9 ?_
  refine EV.o r_L_loss_15 (icN (0) (v := 0)) ?_
  exact EV.ret r_L_loss_16.1 rfl ⟨rfl, rfl, rfl⟩
theorem wx1_loss {I I1 : Nat → Nat → Int32} {J : Nat → Nat → Int64} {a0 : Int32} (h : Cl 40 137 [.ref 0, .int a0] (hp I J) (.inr 1) (hp I1 J) 1) : Cl 41 309 [.ref 0, .int a0, .ref 135] (hp I J) (.inl (some (.int (nI 1)))) (hp I1 J) 1 := by
  refine Cl.of (CL.intro (M := M_L_loss) mt_309 (Nat.le_of_ble_eq_true rfl) ?_)
  show EV none M_L_loss 40 0 [(0, .ref 0), (1, .int a0), (2, .ref 135)] [] (hp I J) _
  refine EV.l (lv' := [(0, _), (1, _), (2, _)]) r_L_loss_0 rfl ?_
  refine EV.o r_L_loss_1 (icN (0) (v := 0)) ?_
  refine EV.l (lv' := [(0, _), (1, _), (2, _)]) r_L_loss_2 rfl ?_
  refine EV.l (lv' := [(0, _), (1, _), (2, _)]) r_L_loss_3 rfl ?_
  refine EV.cat (h := 12) (pc' := 13) (lv' := [(0, .ref 0), (1, .int a0), (2, .ref 135)]) r_L_loss_4.1 rfl (by decide) (aV1 mt_137 la_0) (Nat.le_of_ble_eq_true rfl) h (hp_len _ _ _ _) (by decide) (by rfl) (by rfl) ?_
  refine EV.o r_L_loss_13 (icN (1) (v := 1)) ?_
  exact EV.ret r_L_loss_14.1 rfl ⟨rfl, rfl, rfl⟩
theorem wv_next {I I1 : Nat → Nat → Int32} {J : Nat → Nat → Int64} {v : Int32} {a0 : Int32} (h : Cl 40 138 [.ref 0, .int a0] (hp I J) (.inl (some (.int v))) (hp I1 J) 0) : Cl 41 310 [.ref 0, .int a0, .ref 135] (hp I J) (.inl (some (.int (nI 0)))) (hp I1 (wr J 135 0 v.toInt64)) 0 := by
  refine Cl.of (CL.intro (M := M_L_next) mt_310 (Nat.le_of_ble_eq_true rfl) ?_)
  show EV none M_L_next 40 0 [(0, .ref 0), (1, .int a0), (2, .ref 135)] [] (hp I J) _
  refine EV.l (lv' := [(0, _), (1, _), (2, _)]) r_L_next_0 rfl ?_
  refine EV.o r_L_next_1 (icN (0) (v := 0)) ?_
  refine EV.l (lv' := [(0, _), (1, _), (2, _)]) r_L_next_2 rfl ?_
  refine EV.l (lv' := [(0, _), (1, _), (2, _)]) r_L_next_3 rfl ?_
  refine EV.inv r_L_next_4.1 rfl (by decide) (aV1 mt_138 la_0) (Nat.le_of_ble_eq_true rfl) h (hp_len _ _ _ _) ?_
  show EV none M_L_next 40 7 [(0, .ref 0), (1, .int a0), (2, .ref 135)] [.int v, .int (nI 0), .ref 135] (hp I1 J) _
  refine EV.o r_L_next_7 rfl ?_
  refine EV.lastoreI r_L_next_8.1 la_135 rfl (by decide) (by decide) ?_
  refine EV.g r_L_next_9 ?_
  refine EV.o r_L_next_15 (icN (0) (v := 0)) ?_
  exact EV.ret r_L_next_16.1 rfl ⟨rfl, rfl, rfl⟩
theorem wx1_next {I I1 : Nat → Nat → Int32} {J : Nat → Nat → Int64} {a0 : Int32} (h : Cl 40 138 [.ref 0, .int a0] (hp I J) (.inr 1) (hp I1 J) 1) : Cl 41 310 [.ref 0, .int a0, .ref 135] (hp I J) (.inl (some (.int (nI 1)))) (hp I1 J) 1 := by
  refine Cl.of (CL.intro (M := M_L_next) mt_310 (Nat.le_of_ble_eq_true rfl) ?_)
  show EV none M_L_next 40 0 [(0, .ref 0), (1, .int a0), (2, .ref 135)] [] (hp I J) _
  refine EV.l (lv' := [(0, _), (1, _), (2, _)]) r_L_next_0 rfl ?_
  refine EV.o r_L_next_1 (icN (0) (v := 0)) ?_
  refine EV.l (lv' := [(0, _), (1, _), (2, _)]) r_L_next_2 rfl ?_
  refine EV.l (lv' := [(0, _), (1, _), (2, _)]) r_L_next_3 rfl ?_
  refine EV.cat (h := 12) (pc' := 13) (lv' := [(0, .ref 0), (1, .int a0), (2, .ref 135)]) r_L_next_4.1 rfl (by decide) (aV1 mt_138 la_0) (Nat.le_of_ble_eq_true rfl) h (hp_len _ _ _ _) (by decide) (by rfl) (by rfl) ?_
  refine EV.o r_L_next_13 (icN (1) (v := 1)) ?_
  exact EV.ret r_L_next_14.1 rfl ⟨rfl, rfl, rfl⟩
theorem wv_side {I I1 : Nat → Nat → Int32} {J : Nat → Nat → Int64} {v : Int32} {a0 a1 : Int32} (h : Cl 40 139 [.ref 0, .int a0, .int a1] (hp I J) (.inl (some (.int v))) (hp I1 J) 0) : Cl 41 311 [.ref 0, .int a0, .int a1, .ref 135] (hp I J) (.inl (some (.int (nI 0)))) (hp I1 (wr J 135 0 v.toInt64)) 0 := by
  refine Cl.of (CL.intro (M := M_L_side) mt_311 (Nat.le_of_ble_eq_true rfl) ?_)
  show EV none M_L_side 40 0 [(0, .ref 0), (1, .int a0), (2, .int a1), (3, .ref 135)] [] (hp I J) _
  refine EV.l (lv' := [(0, _), (1, _), (2, _), (3, _)]) r_L_side_0 rfl ?_
  refine EV.o r_L_side_1 (icN (0) (v := 0)) ?_
  refine EV.l (lv' := [(0, _), (1, _), (2, _), (3, _)]) r_L_side_2 rfl ?_
  refine EV.l (lv' := [(0, _), (1, _), (2, _), (3, _)]) r_L_side_3 rfl ?_
  refine EV.l (lv' := [(0, _), (1, _), (2, _), (3, _)]) r_L_side_4 rfl ?_
  refine EV.inv r_L_side_5.1 rfl (by decide) (aV2 mt_139 la_0) (Nat.le_of_ble_eq_true rfl) h (hp_len _ _ _ _) ?_
  show EV none M_L_side 40 8 [(0, .ref 0), (1, .int a0), (2, .int a1), (3, .ref 135)] [.int v, .int (nI 0), .ref 135] (hp I1 J) _
  refine EV.o r_L_side_8 rfl ?_
  refine EV.lastoreI r_L_side_9.1 la_135 rfl (by decide) (by decide) ?_
  refine EV.g r_L_side_10 ?_
  refine EV.o r_L_side_17 (icN (0) (v := 0)) ?_
  exact EV.ret r_L_side_18.1 rfl ⟨rfl, rfl, rfl⟩
theorem wx1_side {I I1 : Nat → Nat → Int32} {J : Nat → Nat → Int64} {a0 a1 : Int32} (h : Cl 40 139 [.ref 0, .int a0, .int a1] (hp I J) (.inr 1) (hp I1 J) 1) : Cl 41 311 [.ref 0, .int a0, .int a1, .ref 135] (hp I J) (.inl (some (.int (nI 1)))) (hp I1 J) 1 := by
  refine Cl.of (CL.intro (M := M_L_side) mt_311 (Nat.le_of_ble_eq_true rfl) ?_)
  show EV none M_L_side 40 0 [(0, .ref 0), (1, .int a0), (2, .int a1), (3, .ref 135)] [] (hp I J) _
  refine EV.l (lv' := [(0, _), (1, _), (2, _), (3, _)]) r_L_side_0 rfl ?_
  refine EV.o r_L_side_1 (icN (0) (v := 0)) ?_
  refine EV.l (lv' := [(0, _), (1, _), (2, _), (3, _)]) r_L_side_2 rfl ?_
  refine EV.l (lv' := [(0, _), (1, _), (2, _), (3, _)]) r_L_side_3 rfl ?_
  refine EV.l (lv' := [(0, _), (1, _), (2, _), (3, _)]) r_L_side_4 rfl ?_
  refine EV.cat (h := 13) (pc' := 15) (lv' := [(0, .ref 0), (1, .int a0), (2, .int a1), (3, .ref 135)]) r_L_side_5.1 rfl (by decide) (aV2 mt_139 la_0) (Nat.le_of_ble_eq_true rfl) h (hp_len _ _ _ _) (by decide) (by rfl) (by rfl) ?_
  refine EV.o r_L_side_15 (icN (1) (v := 1)) ?_
  exact EV.ret r_L_side_16.1 rfl ⟨rfl, rfl, rfl⟩
theorem wv_leaders {I I1 : Nat → Nat → Int32} {J : Nat → Nat → Int64} {v : Int32} {a0 a1 : Int32} (h : Cl 40 140 [.ref 0, .int a0, .int a1] (hp I J) (.inl (some (.int v))) (hp I1 J) 0) : Cl 41 312 [.ref 0, .int a0, .int a1, .ref 135] (hp I J) (.inl (some (.int (nI 0)))) (hp I1 (wr J 135 0 v.toInt64)) 0 := by
  refine Cl.of (CL.intro (M := M_L_leaders) mt_312 (Nat.le_of_ble_eq_true rfl) ?_)
  show EV none M_L_leaders 40 0 [(0, .ref 0), (1, .int a0), (2, .int a1), (3, .ref 135)] [] (hp I J) _
  refine EV.l (lv' := [(0, _), (1, _), (2, _), (3, _)]) r_L_leaders_0 rfl ?_
  refine EV.o r_L_leaders_1 (icN (0) (v := 0)) ?_
  refine EV.l (lv' := [(0, _), (1, _), (2, _), (3, _)]) r_L_leaders_2 rfl ?_
  refine EV.l (lv' := [(0, _), (1, _), (2, _), (3, _)]) r_L_leaders_3 rfl ?_
  refine EV.l (lv' := [(0, _), (1, _), (2, _), (3, _)]) r_L_leaders_4 rfl ?_
  refine EV.inv r_L_leaders_5.1 rfl (by decide) (aV2 mt_140 la_0) (Nat.le_of_ble_eq_true rfl) h (hp_len _ _ _ _) ?_
  show EV none M_L_leaders 40 8 [(0, .ref 0), (1, .int a0), (2, .int a1), (3, .ref 135)] [.int v, .int (nI 0), .ref 135] (hp I1 J) _
  refine EV.o r_L_leaders_8 rfl ?_
  refine EV.lastoreI r_L_leaders_9.1 la_135 rfl (by decide) (by decide) ?_
  refine EV.g r_L_leaders_10 ?_
  refine EV.o r_L_leaders_21 (icN (0) (v := 0)) ?_
  exact EV.ret r_L_leaders_22.1 rfl ⟨rfl, rfl, rfl⟩
theorem wx0_leaders {I I1 : Nat → Nat → Int32} {J : Nat → Nat → Int64} {a0 a1 : Int32} (h : Cl 40 140 [.ref 0, .int a0, .int a1] (hp I J) (.inr 0) (hp I1 J) 1) : Cl 41 312 [.ref 0, .int a0, .int a1, .ref 135] (hp I J) (.inl (some (.int (nI 1)))) (hp I1 J) 1 := by
  refine Cl.of (CL.intro (M := M_L_leaders) mt_312 (Nat.le_of_ble_eq_true rfl) ?_)
  show EV none M_L_leaders 40 0 [(0, .ref 0), (1, .int a0), (2, .int a1), (3, .ref 135)] [] (hp I J) _
  refine EV.l (lv' := [(0, _), (1, _), (2, _), (3, _)]) r_L_leaders_0 rfl ?_
  refine EV.o r_L_leaders_1 (icN (0) (v := 0)) ?_
  refine EV.l (lv' := [(0, _), (1, _), (2, _), (3, _)]) r_L_leaders_2 rfl ?_
  refine EV.l (lv' := [(0, _), (1, _), (2, _), (3, _)]) r_L_leaders_3 rfl ?_
  refine EV.l (lv' := [(0, _), (1, _), (2, _), (3, _)]) r_L_leaders_4 rfl ?_
  refine EV.cat (h := 13) (pc' := 15) (lv' := [(0, .ref 0), (1, .int a0), (2, .int a1), (3, .ref 135)]) r_L_leaders_5.1 rfl (by decide) (aV2 mt_140 la_0) (Nat.le_of_ble_eq_true rfl) h (hp_len _ _ _ _) (by decide) (by rfl) (by rfl) ?_
  refine EV.o r_L_leaders_15 (icN (1) (v := 1)) ?_
  exact EV.ret r_L_leaders_16.1 rfl ⟨rfl, rfl, rfl⟩
theorem wx1_leaders {I I1 : Nat → Nat → Int32} {J : Nat → Nat → Int64} {a0 a1 : Int32} (h : Cl 40 140 [.ref 0, .int a0, .int a1] (hp I J) (.inr 1) (hp I1 J) 1) : Cl 41 312 [.ref 0, .int a0, .int a1, .ref 135] (hp I J) (.inl (some (.int (nI 2)))) (hp I1 J) 1 := by
  refine Cl.of (CL.intro (M := M_L_leaders) mt_312 (Nat.le_of_ble_eq_true rfl) ?_)
  show EV none M_L_leaders 40 0 [(0, .ref 0), (1, .int a0), (2, .int a1), (3, .ref 135)] [] (hp I J) _
  refine EV.l (lv' := [(0, _), (1, _), (2, _), (3, _)]) r_L_leaders_0 rfl ?_
  refine EV.o r_L_leaders_1 (icN (0) (v := 0)) ?_
  refine EV.l (lv' := [(0, _), (1, _), (2, _), (3, _)]) r_L_leaders_2 rfl ?_
  refine EV.l (lv' := [(0, _), (1, _), (2, _), (3, _)]) r_L_leaders_3 rfl ?_
  refine EV.l (lv' := [(0, _), (1, _), (2, _), (3, _)]) r_L_leaders_4 rfl ?_
  refine EV.cat (h := 17) (pc' := 19) (lv' := [(0, .ref 0), (1, .int a0), (2, .int a1), (3, .ref 135)]) r_L_leaders_5.1 rfl (by decide) (aV2 mt_140 la_0) (Nat.le_of_ble_eq_true rfl) h (hp_len _ _ _ _) (by decide) (by rfl) (by rfl) ?_
  refine EV.o r_L_leaders_19 (icN (2) (v := 2)) ?_
  exact EV.ret r_L_leaders_20.1 rfl ⟨rfl, rfl, rfl⟩
theorem wv_over {I I1 : Nat → Nat → Int32} {J : Nat → Nat → Int64} {v : Int32} {a0 : Int32} (h : Cl 40 142 [.ref 0, .int a0] (hp I J) (.inl (some (.int v))) (hp I1 J) 0) : Cl 41 313 [.ref 0, .int a0, .ref 135] (hp I J) (.inl (some (.int (nI 0)))) (hp I1 (wr J 135 0 v.toInt64)) 0 := by
  refine Cl.of (CL.intro (M := M_L_over) mt_313 (Nat.le_of_ble_eq_true rfl) ?_)
  show EV none M_L_over 40 0 [(0, .ref 0), (1, .int a0), (2, .ref 135)] [] (hp I J) _
  refine EV.l (lv' := [(0, _), (1, _), (2, _)]) r_L_over_0 rfl ?_
  refine EV.o r_L_over_1 (icN (0) (v := 0)) ?_
  refine EV.l (lv' := [(0, _), (1, _), (2, _)]) r_L_over_2 rfl ?_
  refine EV.l (lv' := [(0, _), (1, _), (2, _)]) r_L_over_3 rfl ?_
  refine EV.inv r_L_over_4.1 rfl (by decide) (aV1 mt_142 la_0) (Nat.le_of_ble_eq_true rfl) h (hp_len _ _ _ _) ?_
  show EV none M_L_over 40 7 [(0, .ref 0), (1, .int a0), (2, .ref 135)] [.int v, .int (nI 0), .ref 135] (hp I1 J) _
  refine EV.o r_L_over_7 rfl ?_
  refine EV.lastoreI r_L_over_8.1 la_135 rfl (by decide) (by decide) ?_
  refine EV.g r_L_over_9 ?_
  refine EV.o r_L_over_15 (icN (0) (v := 0)) ?_
  exact EV.ret r_L_over_16.1 rfl ⟨rfl, rfl, rfl⟩
theorem wx0_over {I I1 : Nat → Nat → Int32} {J : Nat → Nat → Int64} {a0 : Int32} (h : Cl 40 142 [.ref 0, .int a0] (hp I J) (.inr 0) (hp I1 J) 1) : Cl 41 313 [.ref 0, .int a0, .ref 135] (hp I J) (.inl (some (.int (nI 1)))) (hp I1 J) 1 := by
  refine Cl.of (CL.intro (M := M_L_over) mt_313 (Nat.le_of_ble_eq_true rfl) ?_)
  show EV none M_L_over 40 0 [(0, .ref 0), (1, .int a0), (2, .ref 135)] [] (hp I J) _
  refine EV.l (lv' := [(0, _), (1, _), (2, _)]) r_L_over_0 rfl ?_
  refine EV.o r_L_over_1 (icN (0) (v := 0)) ?_
  refine EV.l (lv' := [(0, _), (1, _), (2, _)]) r_L_over_2 rfl ?_
  refine EV.l (lv' := [(0, _), (1, _), (2, _)]) r_L_over_3 rfl ?_
  refine EV.cat (h := 12) (pc' := 13) (lv' := [(0, .ref 0), (1, .int a0), (2, .ref 135)]) r_L_over_4.1 rfl (by decide) (aV1 mt_142 la_0) (Nat.le_of_ble_eq_true rfl) h (hp_len _ _ _ _) (by decide) (by rfl) (by rfl) ?_
  refine EV.o r_L_over_13 (icN (1) (v := 1)) ?_
  exact EV.ret r_L_over_14.1 rfl ⟨rfl, rfl, rfl⟩
theorem wv_delay {I I1 : Nat → Nat → Int32} {J : Nat → Nat → Int64} {v : Int32} {a0 : Int32} (h : Cl 40 143 [.ref 0, .int a0] (hp I J) (.inl (some (.int v))) (hp I1 J) 0) : Cl 41 314 [.ref 0, .int a0, .ref 135] (hp I J) (.inl (some (.int (nI 0)))) (hp I1 (wr J 135 0 v.toInt64)) 0 := by
  refine Cl.of (CL.intro (M := M_L_delay) mt_314 (Nat.le_of_ble_eq_true rfl) ?_)
  show EV none M_L_delay 40 0 [(0, .ref 0), (1, .int a0), (2, .ref 135)] [] (hp I J) _
  refine EV.l (lv' := [(0, _), (1, _), (2, _)]) r_L_delay_0 rfl ?_
  refine EV.o r_L_delay_1 (icN (0) (v := 0)) ?_
  refine EV.l (lv' := [(0, _), (1, _), (2, _)]) r_L_delay_2 rfl ?_
  refine EV.l (lv' := [(0, _), (1, _), (2, _)]) r_L_delay_3 rfl ?_
  refine EV.inv r_L_delay_4.1 rfl (by decide) (aV1 mt_143 la_0) (Nat.le_of_ble_eq_true rfl) h (hp_len _ _ _ _) ?_
  show EV none M_L_delay 40 7 [(0, .ref 0), (1, .int a0), (2, .ref 135)] [.int v, .int (nI 0), .ref 135] (hp I1 J) _
  refine EV.o r_L_delay_7 rfl ?_
  refine EV.lastoreI r_L_delay_8.1 la_135 rfl (by decide) (by decide) ?_
  refine EV.g r_L_delay_9 ?_
  refine EV.o r_L_delay_15 (icN (0) (v := 0)) ?_
  exact EV.ret r_L_delay_16.1 rfl ⟨rfl, rfl, rfl⟩
theorem wx0_delay {I I1 : Nat → Nat → Int32} {J : Nat → Nat → Int64} {a0 : Int32} (h : Cl 40 143 [.ref 0, .int a0] (hp I J) (.inr 0) (hp I1 J) 1) : Cl 41 314 [.ref 0, .int a0, .ref 135] (hp I J) (.inl (some (.int (nI 1)))) (hp I1 J) 1 := by
  refine Cl.of (CL.intro (M := M_L_delay) mt_314 (Nat.le_of_ble_eq_true rfl) ?_)
  show EV none M_L_delay 40 0 [(0, .ref 0), (1, .int a0), (2, .ref 135)] [] (hp I J) _
  refine EV.l (lv' := [(0, _), (1, _), (2, _)]) r_L_delay_0 rfl ?_
  refine EV.o r_L_delay_1 (icN (0) (v := 0)) ?_
  refine EV.l (lv' := [(0, _), (1, _), (2, _)]) r_L_delay_2 rfl ?_
  refine EV.l (lv' := [(0, _), (1, _), (2, _)]) r_L_delay_3 rfl ?_
  refine EV.cat (h := 12) (pc' := 13) (lv' := [(0, .ref 0), (1, .int a0), (2, .ref 135)]) r_L_delay_4.1 rfl (by decide) (aV1 mt_143 la_0) (Nat.le_of_ble_eq_true rfl) h (hp_len _ _ _ _) (by decide) (by rfl) (by rfl) ?_
  refine EV.o r_L_delay_13 (icN (1) (v := 1)) ?_
  exact EV.ret r_L_delay_14.1 rfl ⟨rfl, rfl, rfl⟩
theorem wv_point {I I1 : Nat → Nat → Int32} {J : Nat → Nat → Int64} {v : Int32} {a0 a1 : Int32} (h : Cl 40 144 [.ref 0, .int a0, .int a1] (hp I J) (.inl (some (.int v))) (hp I1 J) 0) : Cl 41 315 [.ref 0, .int a0, .int a1, .ref 135] (hp I J) (.inl (some (.int (nI 0)))) (hp I1 (wr J 135 0 v.toInt64)) 0 := by
  refine Cl.of (CL.intro (M := M_L_point) mt_315 (Nat.le_of_ble_eq_true rfl) ?_)
  show EV none M_L_point 40 0 [(0, .ref 0), (1, .int a0), (2, .int a1), (3, .ref 135)] [] (hp I J) _
  refine EV.l (lv' := [(0, _), (1, _), (2, _), (3, _)]) r_L_point_0 rfl ?_
  refine EV.o r_L_point_1 (icN (0) (v := 0)) ?_
  refine EV.l (lv' := [(0, _), (1, _), (2, _), (3, _)]) r_L_point_2 rfl ?_
  refine EV.l (lv' := [(0, _), (1, _), (2, _), (3, _)]) r_L_point_3 rfl ?_
  refine EV.l (lv' := [(0, _), (1, _), (2, _), (3, _)]) r_L_point_4 rfl ?_
  refine EV.inv r_L_point_5.1 rfl (by decide) (aV2 mt_144 la_0) (Nat.le_of_ble_eq_true rfl) h (hp_len _ _ _ _) ?_
  show EV none M_L_point 40 8 [(0, .ref 0), (1, .int a0), (2, .int a1), (3, .ref 135)] [.int v, .int (nI 0), .ref 135] (hp I1 J) _
  refine EV.o r_L_point_8 rfl ?_
  refine EV.lastoreI r_L_point_9.1 la_135 rfl (by decide) (by decide) ?_
  refine EV.g r_L_point_10 ?_
  refine EV.o r_L_point_17 (icN (0) (v := 0)) ?_
  exact EV.ret r_L_point_18.1 rfl ⟨rfl, rfl, rfl⟩
theorem wx1_point {I I1 : Nat → Nat → Int32} {J : Nat → Nat → Int64} {a0 a1 : Int32} (h : Cl 40 144 [.ref 0, .int a0, .int a1] (hp I J) (.inr 1) (hp I1 J) 1) : Cl 41 315 [.ref 0, .int a0, .int a1, .ref 135] (hp I J) (.inl (some (.int (nI 1)))) (hp I1 J) 1 := by
  refine Cl.of (CL.intro (M := M_L_point) mt_315 (Nat.le_of_ble_eq_true rfl) ?_)
  show EV none M_L_point 40 0 [(0, .ref 0), (1, .int a0), (2, .int a1), (3, .ref 135)] [] (hp I J) _
  refine EV.l (lv' := [(0, _), (1, _), (2, _), (3, _)]) r_L_point_0 rfl ?_
  refine EV.o r_L_point_1 (icN (0) (v := 0)) ?_
  refine EV.l (lv' := [(0, _), (1, _), (2, _), (3, _)]) r_L_point_2 rfl ?_
  refine EV.l (lv' := [(0, _), (1, _), (2, _), (3, _)]) r_L_point_3 rfl ?_
  refine EV.l (lv' := [(0, _), (1, _), (2, _), (3, _)]) r_L_point_4 rfl ?_
  refine EV.cat (h := 13) (pc' := 15) (lv' := [(0, .ref 0), (1, .int a0), (2, .int a1), (3, .ref 135)]) r_L_point_5.1 rfl (by decide) (aV2 mt_144 la_0) (Nat.le_of_ble_eq_true rfl) h (hp_len _ _ _ _) (by decide) (by rfl) (by rfl) ?_
  refine EV.o r_L_point_15 (icN (1) (v := 1)) ?_
  exact EV.ret r_L_point_16.1 rfl ⟨rfl, rfl, rfl⟩
theorem wv_purse {I I1 : Nat → Nat → Int32} {J : Nat → Nat → Int64} {v : Int32} {a0 : Int32} (h : Cl 40 145 [.ref 0, .int a0] (hp I J) (.inl (some (.int v))) (hp I1 J) 0) : Cl 41 316 [.ref 0, .int a0, .ref 135] (hp I J) (.inl (some (.int (nI 0)))) (hp I1 (wr J 135 0 v.toInt64)) 0 := by
  refine Cl.of (CL.intro (M := M_L_purse) mt_316 (Nat.le_of_ble_eq_true rfl) ?_)
  show EV none M_L_purse 40 0 [(0, .ref 0), (1, .int a0), (2, .ref 135)] [] (hp I J) _
  refine EV.l (lv' := [(0, _), (1, _), (2, _)]) r_L_purse_0 rfl ?_
  refine EV.o r_L_purse_1 (icN (0) (v := 0)) ?_
  refine EV.l (lv' := [(0, _), (1, _), (2, _)]) r_L_purse_2 rfl ?_
  refine EV.l (lv' := [(0, _), (1, _), (2, _)]) r_L_purse_3 rfl ?_
  refine EV.inv r_L_purse_4.1 rfl (by decide) (aV1 mt_145 la_0) (Nat.le_of_ble_eq_true rfl) h (hp_len _ _ _ _) ?_
  show EV none M_L_purse 40 7 [(0, .ref 0), (1, .int a0), (2, .ref 135)] [.int v, .int (nI 0), .ref 135] (hp I1 J) _
  refine EV.o r_L_purse_7 rfl ?_
  refine EV.lastoreI r_L_purse_8.1 la_135 rfl (by decide) (by decide) ?_
  refine EV.g r_L_purse_9 ?_
  refine EV.o r_L_purse_15 (icN (0) (v := 0)) ?_
  exact EV.ret r_L_purse_16.1 rfl ⟨rfl, rfl, rfl⟩
theorem wx1_purse {I I1 : Nat → Nat → Int32} {J : Nat → Nat → Int64} {a0 : Int32} (h : Cl 40 145 [.ref 0, .int a0] (hp I J) (.inr 1) (hp I1 J) 1) : Cl 41 316 [.ref 0, .int a0, .ref 135] (hp I J) (.inl (some (.int (nI 1)))) (hp I1 J) 1 := by
  refine Cl.of (CL.intro (M := M_L_purse) mt_316 (Nat.le_of_ble_eq_true rfl) ?_)
  show EV none M_L_purse 40 0 [(0, .ref 0), (1, .int a0), (2, .ref 135)] [] (hp I J) _
  refine EV.l (lv' := [(0, _), (1, _), (2, _)]) r_L_purse_0 rfl ?_
  refine EV.o r_L_purse_1 (icN (0) (v := 0)) ?_
  refine EV.l (lv' := [(0, _), (1, _), (2, _)]) r_L_purse_2 rfl ?_
  refine EV.l (lv' := [(0, _), (1, _), (2, _)]) r_L_purse_3 rfl ?_
  refine EV.cat (h := 12) (pc' := 13) (lv' := [(0, .ref 0), (1, .int a0), (2, .ref 135)]) r_L_purse_4.1 rfl (by decide) (aV1 mt_145 la_0) (Nat.le_of_ble_eq_true rfl) h (hp_len _ _ _ _) (by decide) (by rfl) (by rfl) ?_
  refine EV.o r_L_purse_13 (icN (1) (v := 1)) ?_
  exact EV.ret r_L_purse_14.1 rfl ⟨rfl, rfl, rfl⟩
theorem wv_crowd {I I1 : Nat → Nat → Int32} {J : Nat → Nat → Int64} {v : Int32} {a0 : Int32} (h : Cl 40 147 [.ref 0, .int a0] (hp I J) (.inl (some (.int v))) (hp I1 J) 0) : Cl 41 317 [.ref 0, .int a0, .ref 135] (hp I J) (.inl (some (.int (nI 0)))) (hp I1 (wr J 135 0 v.toInt64)) 0 := by
  refine Cl.of (CL.intro (M := M_L_crowd) mt_317 (Nat.le_of_ble_eq_true rfl) ?_)
  show EV none M_L_crowd 40 0 [(0, .ref 0), (1, .int a0), (2, .ref 135)] [] (hp I J) _
  refine EV.l (lv' := [(0, _), (1, _), (2, _)]) r_L_crowd_0 rfl ?_
  refine EV.o r_L_crowd_1 (icN (0) (v := 0)) ?_
  refine EV.l (lv' := [(0, _), (1, _), (2, _)]) r_L_crowd_2 rfl ?_
  refine EV.l (lv' := [(0, _), (1, _), (2, _)]) r_L_crowd_3 rfl ?_
  refine EV.inv r_L_crowd_4.1 rfl (by decide) (aV1 mt_147 la_0) (Nat.le_of_ble_eq_true rfl) h (hp_len _ _ _ _) ?_
  show EV none M_L_crowd 40 7 [(0, .ref 0), (1, .int a0), (2, .ref 135)] [.int v, .int (nI 0), .ref 135] (hp I1 J) _
  refine EV.o r_L_crowd_7 rfl ?_
  refine EV.lastoreI r_L_crowd_8.1 la_135 rfl (by decide) (by decide) ?_
  refine EV.g r_L_crowd_9 ?_
  refine EV.o r_L_crowd_15 (icN (0) (v := 0)) ?_
  exact EV.ret r_L_crowd_16.1 rfl ⟨rfl, rfl, rfl⟩
theorem wx1_crowd {I I1 : Nat → Nat → Int32} {J : Nat → Nat → Int64} {a0 : Int32} (h : Cl 40 147 [.ref 0, .int a0] (hp I J) (.inr 1) (hp I1 J) 1) : Cl 41 317 [.ref 0, .int a0, .ref 135] (hp I J) (.inl (some (.int (nI 1)))) (hp I1 J) 1 := by
  refine Cl.of (CL.intro (M := M_L_crowd) mt_317 (Nat.le_of_ble_eq_true rfl) ?_)
  show EV none M_L_crowd 40 0 [(0, .ref 0), (1, .int a0), (2, .ref 135)] [] (hp I J) _
  refine EV.l (lv' := [(0, _), (1, _), (2, _)]) r_L_crowd_0 rfl ?_
  refine EV.o r_L_crowd_1 (icN (0) (v := 0)) ?_
  refine EV.l (lv' := [(0, _), (1, _), (2, _)]) r_L_crowd_2 rfl ?_
  refine EV.l (lv' := [(0, _), (1, _), (2, _)]) r_L_crowd_3 rfl ?_
  refine EV.cat (h := 12) (pc' := 13) (lv' := [(0, .ref 0), (1, .int a0), (2, .ref 135)]) r_L_crowd_4.1 rfl (by decide) (aV1 mt_147 la_0) (Nat.le_of_ble_eq_true rfl) h (hp_len _ _ _ _) (by decide) (by rfl) (by rfl) ?_
  refine EV.o r_L_crowd_13 (icN (1) (v := 1)) ?_
  exact EV.ret r_L_crowd_14.1 rfl ⟨rfl, rfl, rfl⟩
theorem wv_swing {I I1 : Nat → Nat → Int32} {J : Nat → Nat → Int64} {v : Int32} {a0 : Int32} (h : Cl 40 148 [.ref 0, .int a0] (hp I J) (.inl (some (.int v))) (hp I1 J) 0) : Cl 41 318 [.ref 0, .int a0, .ref 135] (hp I J) (.inl (some (.int (nI 0)))) (hp I1 (wr J 135 0 v.toInt64)) 0 := by
  refine Cl.of (CL.intro (M := M_L_swing) mt_318 (Nat.le_of_ble_eq_true rfl) ?_)
  show EV none M_L_swing 40 0 [(0, .ref 0), (1, .int a0), (2, .ref 135)] [] (hp I J) _
  refine EV.l (lv' := [(0, _), (1, _), (2, _)]) r_L_swing_0 rfl ?_
  refine EV.o r_L_swing_1 (icN (0) (v := 0)) ?_
  refine EV.l (lv' := [(0, _), (1, _), (2, _)]) r_L_swing_2 rfl ?_
  refine EV.l (lv' := [(0, _), (1, _), (2, _)]) r_L_swing_3 rfl ?_
  refine EV.inv r_L_swing_4.1 rfl (by decide) (aV1 mt_148 la_0) (Nat.le_of_ble_eq_true rfl) h (hp_len _ _ _ _) ?_
  show EV none M_L_swing 40 7 [(0, .ref 0), (1, .int a0), (2, .ref 135)] [.int v, .int (nI 0), .ref 135] (hp I1 J) _
  refine EV.o r_L_swing_7 rfl ?_
  refine EV.lastoreI r_L_swing_8.1 la_135 rfl (by decide) (by decide) ?_
  refine EV.g r_L_swing_9 ?_
  refine EV.o r_L_swing_15 (icN (0) (v := 0)) ?_
  exact EV.ret r_L_swing_16.1 rfl ⟨rfl, rfl, rfl⟩
theorem wx0_swing {I I1 : Nat → Nat → Int32} {J : Nat → Nat → Int64} {a0 : Int32} (h : Cl 40 148 [.ref 0, .int a0] (hp I J) (.inr 0) (hp I1 J) 1) : Cl 41 318 [.ref 0, .int a0, .ref 135] (hp I J) (.inl (some (.int (nI 1)))) (hp I1 J) 1 := by
  refine Cl.of (CL.intro (M := M_L_swing) mt_318 (Nat.le_of_ble_eq_true rfl) ?_)
  show EV none M_L_swing 40 0 [(0, .ref 0), (1, .int a0), (2, .ref 135)] [] (hp I J) _
  refine EV.l (lv' := [(0, _), (1, _), (2, _)]) r_L_swing_0 rfl ?_
  refine EV.o r_L_swing_1 (icN (0) (v := 0)) ?_
  refine EV.l (lv' := [(0, _), (1, _), (2, _)]) r_L_swing_2 rfl ?_
  refine EV.l (lv' := [(0, _), (1, _), (2, _)]) r_L_swing_3 rfl ?_
  refine EV.cat (h := 12) (pc' := 13) (lv' := [(0, .ref 0), (1, .int a0), (2, .ref 135)]) r_L_swing_4.1 rfl (by decide) (aV1 mt_148 la_0) (Nat.le_of_ble_eq_true rfl) h (hp_len _ _ _ _) (by decide) (by rfl) (by rfl) ?_
  refine EV.o r_L_swing_13 (icN (1) (v := 1)) ?_
  exact EV.ret r_L_swing_14.1 rfl ⟨rfl, rfl, rfl⟩
theorem wv_when {I I1 : Nat → Nat → Int32} {J : Nat → Nat → Int64} {v : Int32} {a0 : Int32} (h : Cl 40 149 [.ref 0, .int a0] (hp I J) (.inl (some (.int v))) (hp I1 J) 0) : Cl 41 319 [.ref 0, .int a0, .ref 135] (hp I J) (.inl (some (.int (nI 0)))) (hp I1 (wr J 135 0 v.toInt64)) 0 := by
  refine Cl.of (CL.intro (M := M_L_when) mt_319 (Nat.le_of_ble_eq_true rfl) ?_)
  show EV none M_L_when 40 0 [(0, .ref 0), (1, .int a0), (2, .ref 135)] [] (hp I J) _
  refine EV.l (lv' := [(0, _), (1, _), (2, _)]) r_L_when_0 rfl ?_
  refine EV.o r_L_when_1 (icN (0) (v := 0)) ?_
  refine EV.l (lv' := [(0, _), (1, _), (2, _)]) r_L_when_2 rfl ?_
  refine EV.l (lv' := [(0, _), (1, _), (2, _)]) r_L_when_3 rfl ?_
  refine EV.inv r_L_when_4.1 rfl (by decide) (aV1 mt_149 la_0) (Nat.le_of_ble_eq_true rfl) h (hp_len _ _ _ _) ?_
  show EV none M_L_when 40 7 [(0, .ref 0), (1, .int a0), (2, .ref 135)] [.int v, .int (nI 0), .ref 135] (hp I1 J) _
  refine EV.o r_L_when_7 rfl ?_
  refine EV.lastoreI r_L_when_8.1 la_135 rfl (by decide) (by decide) ?_
  refine EV.g r_L_when_9 ?_
  refine EV.o r_L_when_15 (icN (0) (v := 0)) ?_
  exact EV.ret r_L_when_16.1 rfl ⟨rfl, rfl, rfl⟩
theorem wx1_when {I I1 : Nat → Nat → Int32} {J : Nat → Nat → Int64} {a0 : Int32} (h : Cl 40 149 [.ref 0, .int a0] (hp I J) (.inr 1) (hp I1 J) 1) : Cl 41 319 [.ref 0, .int a0, .ref 135] (hp I J) (.inl (some (.int (nI 1)))) (hp I1 J) 1 := by
  refine Cl.of (CL.intro (M := M_L_when) mt_319 (Nat.le_of_ble_eq_true rfl) ?_)
  show EV none M_L_when 40 0 [(0, .ref 0), (1, .int a0), (2, .ref 135)] [] (hp I J) _
  refine EV.l (lv' := [(0, _), (1, _), (2, _)]) r_L_when_0 rfl ?_
  refine EV.o r_L_when_1 (icN (0) (v := 0)) ?_
  refine EV.l (lv' := [(0, _), (1, _), (2, _)]) r_L_when_2 rfl ?_
  refine EV.l (lv' := [(0, _), (1, _), (2, _)]) r_L_when_3 rfl ?_
  refine EV.cat (h := 12) (pc' := 13) (lv' := [(0, .ref 0), (1, .int a0), (2, .ref 135)]) r_L_when_4.1 rfl (by decide) (aV1 mt_149 la_0) (Nat.le_of_ble_eq_true rfl) h (hp_len _ _ _ _) (by decide) (by rfl) (by rfl) ?_
  refine EV.o r_L_when_13 (icN (1) (v := 1)) ?_
  exact EV.ret r_L_when_14.1 rfl ⟨rfl, rfl, rfl⟩
theorem wv_term {I I1 : Nat → Nat → Int32} {J : Nat → Nat → Int64} {v : Int32} {a0 a1 a2 a3 : Int32} (h : Cl 40 150 [.ref 0, .int a0, .int a1, .int a2, .int a3] (hp I J) (.inl (some (.int v))) (hp I1 J) 0) : Cl 41 320 [.ref 0, .int a0, .int a1, .int a2, .int a3, .ref 135] (hp I J) (.inl (some (.int (nI 0)))) (hp I1 (wr J 135 0 v.toInt64)) 0 := by
  refine Cl.of (CL.intro (M := M_L_term) mt_320 (Nat.le_of_ble_eq_true rfl) ?_)
  show EV none M_L_term 40 0 [(0, .ref 0), (1, .int a0), (2, .int a1), (3, .int a2), (4, .int a3), (5, .ref 135)] [] (hp I J) _
  refine EV.l (lv' := [(0, _), (1, _), (2, _), (3, _), (4, _), (5, _)]) r_L_term_0 rfl ?_
  refine EV.o r_L_term_2 (icN (0) (v := 0)) ?_
  refine EV.l (lv' := [(0, _), (1, _), (2, _), (3, _), (4, _), (5, _)]) r_L_term_3 rfl ?_
  refine EV.l (lv' := [(0, _), (1, _), (2, _), (3, _), (4, _), (5, _)]) r_L_term_4 rfl ?_
  refine EV.l (lv' := [(0, _), (1, _), (2, _), (3, _), (4, _), (5, _)]) r_L_term_5 rfl ?_
  refine EV.l (lv' := [(0, _), (1, _), (2, _), (3, _), (4, _), (5, _)]) r_L_term_6 rfl ?_
  refine EV.l (lv' := [(0, _), (1, _), (2, _), (3, _), (4, _), (5, _)]) r_L_term_7 rfl ?_
  refine EV.inv r_L_term_9.1 rfl (by decide) (aV4 mt_150 la_0) (Nat.le_of_ble_eq_true rfl) h (hp_len _ _ _ _) ?_
  show EV none M_L_term 40 12 [(0, .ref 0), (1, .int a0), (2, .int a1), (3, .int a2), (4, .int a3), (5, .ref 135)] [.int v, .int (nI 0), .ref 135] (hp I1 J) _
  refine EV.o r_L_term_12 rfl ?_
  refine EV.lastoreI r_L_term_13.1 la_135 rfl (by decide) (by decide) ?_
  refine EV.g r_L_term_14 ?_
  refine EV.o r_L_term_21 (icN (0) (v := 0)) ?_
  exact EV.ret r_L_term_22.1 rfl ⟨rfl, rfl, rfl⟩
theorem wx1_term {I I1 : Nat → Nat → Int32} {J : Nat → Nat → Int64} {a0 a1 a2 a3 : Int32} (h : Cl 40 150 [.ref 0, .int a0, .int a1, .int a2, .int a3] (hp I J) (.inr 1) (hp I1 J) 1) : Cl 41 320 [.ref 0, .int a0, .int a1, .int a2, .int a3, .ref 135] (hp I J) (.inl (some (.int (nI 1)))) (hp I1 J) 1 := by
  refine Cl.of (CL.intro (M := M_L_term) mt_320 (Nat.le_of_ble_eq_true rfl) ?_)
  show EV none M_L_term 40 0 [(0, .ref 0), (1, .int a0), (2, .int a1), (3, .int a2), (4, .int a3), (5, .ref 135)] [] (hp I J) _
  refine EV.l (lv' := [(0, _), (1, _), (2, _), (3, _), (4, _), (5, _)]) r_L_term_0 rfl ?_
  refine EV.o r_L_term_2 (icN (0) (v := 0)) ?_
  refine EV.l (lv' := [(0, _), (1, _), (2, _), (3, _), (4, _), (5, _)]) r_L_term_3 rfl ?_
  refine EV.l (lv' := [(0, _), (1, _), (2, _), (3, _), (4, _), (5, _)]) r_L_term_4 rfl ?_
  refine EV.l (lv' := [(0, _), (1, _), (2, _), (3, _), (4, _), (5, _)]) r_L_term_5 rfl ?_
  refine EV.l (lv' := [(0, _), (1, _), (2, _), (3, _), (4, _), (5, _)]) r_L_term_6 rfl ?_
  refine EV.l (lv' := [(0, _), (1, _), (2, _), (3, _), (4, _), (5, _)]) r_L_term_7 rfl ?_
  refine EV.cat (h := 17) (pc' := 19) (lv' := [(0, .ref 0), (1, .int a0), (2, .int a1), (3, .int a2), (4, .int a3), (5, .ref 135)]) r_L_term_9.1 rfl (by decide) (aV4 mt_150 la_0) (Nat.le_of_ble_eq_true rfl) h (hp_len _ _ _ _) (by decide) (by rfl) (by rfl) ?_
  refine EV.o r_L_term_19 (icN (1) (v := 1)) ?_
  exact EV.ret r_L_term_20.1 rfl ⟨rfl, rfl, rfl⟩
theorem wv_span {I I1 : Nat → Nat → Int32} {J : Nat → Nat → Int64} {v : Int32} {a0 a1 a2 a3 a4 a5 : Int32} (h : Cl 40 151 [.ref 0, .int a0, .int a1, .int a2, .int a3, .int a4, .int a5] (hp I J) (.inl (some (.int v))) (hp I1 J) 0) : Cl 41 321 [.ref 0, .int a0, .int a1, .int a2, .int a3, .int a4, .int a5, .ref 135] (hp I J) (.inl (some (.int (nI 0)))) (hp I1 (wr J 135 0 v.toInt64)) 0 := by
  refine Cl.of (CL.intro (M := M_L_span) mt_321 (Nat.le_of_ble_eq_true rfl) ?_)
  show EV none M_L_span 40 0 [(0, .ref 0), (1, .int a0), (2, .int a1), (3, .int a2), (4, .int a3), (5, .int a4), (6, .int a5), (7, .ref 135)] [] (hp I J) _
  refine EV.l (lv' := [(0, _), (1, _), (2, _), (3, _), (4, _), (5, _), (6, _), (7, _)]) r_L_span_0 rfl ?_
  refine EV.o r_L_span_2 (icN (0) (v := 0)) ?_
  refine EV.l (lv' := [(0, _), (1, _), (2, _), (3, _), (4, _), (5, _), (6, _), (7, _)]) r_L_span_3 rfl ?_
  refine EV.l (lv' := [(0, _), (1, _), (2, _), (3, _), (4, _), (5, _), (6, _), (7, _)]) r_L_span_4 rfl ?_
  refine EV.l (lv' := [(0, _), (1, _), (2, _), (3, _), (4, _), (5, _), (6, _), (7, _)]) r_L_span_5 rfl ?_
  refine EV.l (lv' := [(0, _), (1, _), (2, _), (3, _), (4, _), (5, _), (6, _), (7, _)]) r_L_span_6 rfl ?_
  refine EV.l (lv' := [(0, _), (1, _), (2, _), (3, _), (4, _), (5, _), (6, _), (7, _)]) r_L_span_7 rfl ?_
  refine EV.l (lv' := [(0, _), (1, _), (2, _), (3, _), (4, _), (5, _), (6, _), (7, _)]) r_L_span_9 rfl ?_
  refine EV.l (lv' := [(0, _), (1, _), (2, _), (3, _), (4, _), (5, _), (6, _), (7, _)]) r_L_span_11 rfl ?_
  refine EV.inv r_L_span_13.1 rfl (by decide) (aV6 mt_151 la_0) (Nat.le_of_ble_eq_true rfl) h (hp_len _ _ _ _) ?_
  show EV none M_L_span 40 16 [(0, .ref 0), (1, .int a0), (2, .int a1), (3, .int a2), (4, .int a3), (5, .int a4), (6, .int a5), (7, .ref 135)] [.int v, .int (nI 0), .ref 135] (hp I1 J) _
  refine EV.o r_L_span_16 rfl ?_
  refine EV.lastoreI r_L_span_17.1 la_135 rfl (by decide) (by decide) ?_
  refine EV.g r_L_span_18 ?_
  refine EV.o r_L_span_25 (icN (0) (v := 0)) ?_
  exact EV.ret r_L_span_26.1 rfl ⟨rfl, rfl, rfl⟩
theorem wx1_span {I I1 : Nat → Nat → Int32} {J : Nat → Nat → Int64} {a0 a1 a2 a3 a4 a5 : Int32} (h : Cl 40 151 [.ref 0, .int a0, .int a1, .int a2, .int a3, .int a4, .int a5] (hp I J) (.inr 1) (hp I1 J) 1) : Cl 41 321 [.ref 0, .int a0, .int a1, .int a2, .int a3, .int a4, .int a5, .ref 135] (hp I J) (.inl (some (.int (nI 1)))) (hp I1 J) 1 := by
  refine Cl.of (CL.intro (M := M_L_span) mt_321 (Nat.le_of_ble_eq_true rfl) ?_)
  show EV none M_L_span 40 0 [(0, .ref 0), (1, .int a0), (2, .int a1), (3, .int a2), (4, .int a3), (5, .int a4), (6, .int a5), (7, .ref 135)] [] (hp I J) _
  refine EV.l (lv' := [(0, _), (1, _), (2, _), (3, _), (4, _), (5, _), (6, _), (7, _)]) r_L_span_0 rfl ?_
  refine EV.o r_L_span_2 (icN (0) (v := 0)) ?_
  refine EV.l (lv' := [(0, _), (1, _), (2, _), (3, _), (4, _), (5, _), (6, _), (7, _)]) r_L_span_3 rfl ?_
  refine EV.l (lv' := [(0, _), (1, _), (2, _), (3, _), (4, _), (5, _), (6, _), (7, _)]) r_L_span_4 rfl ?_
  refine EV.l (lv' := [(0, _), (1, _), (2, _), (3, _), (4, _), (5, _), (6, _), (7, _)]) r_L_span_5 rfl ?_
  refine EV.l (lv' := [(0, _), (1, _), (2, _), (3, _), (4, _), (5, _), (6, _), (7, _)]) r_L_span_6 rfl ?_
  refine EV.l (lv' := [(0, _), (1, _), (2, _), (3, _), (4, _), (5, _), (6, _), (7, _)]) r_L_span_7 rfl ?_
  refine EV.l (lv' := [(0, _), (1, _), (2, _), (3, _), (4, _), (5, _), (6, _), (7, _)]) r_L_span_9 rfl ?_
  refine EV.l (lv' := [(0, _), (1, _), (2, _), (3, _), (4, _), (5, _), (6, _), (7, _)]) r_L_span_11 rfl ?_
  refine EV.cat (h := 21) (pc' := 23) (lv' := [(0, .ref 0), (1, .int a0), (2, .int a1), (3, .int a2), (4, .int a3), (5, .int a4), (6, .int a5), (7, .ref 135)]) r_L_span_13.1 rfl (by decide) (aV6 mt_151 la_0) (Nat.le_of_ble_eq_true rfl) h (hp_len _ _ _ _) (by decide) (by rfl) (by rfl) ?_
  refine EV.o r_L_span_23 (icN (1) (v := 1)) ?_
  exact EV.ret r_L_span_24.1 rfl ⟨rfl, rfl, rfl⟩
