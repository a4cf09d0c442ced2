theorem t1_in {w : Cond} (h : w ∈ tables_1_1) : w ∈ lw_tbl := List.mem_append_right _ (show w ∈ tables_1_1 ++ (tables_1_2 ++ (tables_1_3 ++ (tables_1_4 ++ tables_1_5))) from List.mem_append_left _ h)
theorem t2_in {w : Cond} (h : w ∈ tables_1_2) : w ∈ lw_tbl := List.mem_append_right _ (show w ∈ tables_1_1 ++ (tables_1_2 ++ (tables_1_3 ++ (tables_1_4 ++ tables_1_5))) from List.mem_append_right _ (List.mem_append_left _ h))
theorem t3_in {w : Cond} (h : w ∈ tables_1_3) : w ∈ lw_tbl := List.mem_append_right _ (show w ∈ tables_1_1 ++ (tables_1_2 ++ (tables_1_3 ++ (tables_1_4 ++ tables_1_5))) from List.mem_append_right _ (List.mem_append_right _ (List.mem_append_left _ h)))
theorem t4_in {w : Cond} (h : w ∈ tables_1_4) : w ∈ lw_tbl := List.mem_append_right _ (show w ∈ tables_1_1 ++ (tables_1_2 ++ (tables_1_3 ++ (tables_1_4 ++ tables_1_5))) from List.mem_append_right _ (List.mem_append_right _ (List.mem_append_right _ (List.mem_append_left _ h))))
theorem t5_in {w : Cond} (h : w ∈ tables_1_5) : w ∈ lw_tbl := List.mem_append_right _ (show w ∈ tables_1_1 ++ (tables_1_2 ++ (tables_1_3 ++ (tables_1_4 ++ tables_1_5))) from List.mem_append_right _ (List.mem_append_right _ (List.mem_append_right _ (List.mem_append_right _ (h)))))
theorem gin_0 : GoodIn lw_tbl (u_ws (gRn 0) (gTn 0) (gnf 0)) := goodIn_r _ [536, 538, 540, 542, 544, 546, 548] (by decide +kernel) (by decide +kernel)
theorem gin_1 : GoodIn lw_tbl (u_ws (gRn 1) (gTn 1) (gnf 1)) := goodIn_r _ [250, 252, 254, 256, 258] (by decide +kernel) (by decide +kernel)
theorem gin_2 : GoodIn lw_tbl (u_ws (gRn 2) (gTn 2) (gnf 2)) := goodIn_r _ [407, 409, 411, 413] (by decide +kernel) (by decide +kernel)
theorem gin_3 : GoodIn lw_tbl (u_ws (gRn 3) (gTn 3) (gnf 3)) := goodIn_r _ [369, 371, 373] (by decide +kernel) (by decide +kernel)
theorem gin_4 : GoodIn lw_tbl (u_ws (gRn 4) (gTn 4) (gnf 4)) := goodIn_r _ [732, 734, 736, 738] (by decide +kernel) (by decide +kernel)
theorem gin_5 : GoodIn lw_tbl (u_ws (gRn 5) (gTn 5) (gnf 5)) := goodIn_r _ [586, 588, 590, 592, 594, 596] (by decide +kernel) (by decide +kernel)
theorem gin_6 : GoodIn lw_tbl (u_ws (gRn 6) (gTn 6) (gnf 6)) := goodIn_r _ [157, 159, 161, 163, 165] (by decide +kernel) (by decide +kernel)
theorem gin_7 : GoodIn lw_tbl (u_ws (gRn 7) (gTn 7) (gnf 7)) := goodIn_r _ [298, 300, 302, 304, 306] (by decide +kernel) (by decide +kernel)
theorem gin_8 : GoodIn lw_tbl (u_ws (gRn 8) (gTn 8) (gnf 8)) := goodIn_r _ [181, 183, 185, 187, 189, 191, 193, 195, 197, 199, 201, 203, 205] (by decide +kernel) (by decide +kernel)
theorem gin_9 : GoodIn lw_tbl (u_ws (gRn 9) (gTn 9) (gnf 9)) := goodIn_r _ [856, 858, 860, 862, 864, 866, 868, 870, 872, 874, 876, 878, 880, 882, 884, 886, 888, 890, 892, 894, 896, 898, 900, 902, 904, 906, 908, 910, 912, 914, 916, 918, 920, 922, 924, 926, 928, 930] (by decide +kernel) (by decide +kernel)
theorem gin_10 : GoodIn lw_tbl (u_ws (gRn 10) (gTn 10) (gnf 10)) := goodIn_r _ [147, 143, 145] (by decide +kernel) (by decide +kernel)
theorem gin_of {ws : List Cond} (h : GoodIn lw_tbl ws) : ∀ w ∈ ws, w ∈ lw_tbl := fun w hw => (h w hw).1
theorem lw_g_in {w : Cond} (h : w ∈ lw_tbl) (hg : goodWord w = true) : w ∈ lw_g := List.mem_filter.mpr ⟨h, hg⟩
theorem lw_n_in {w : Cond} (h : w ∈ lw_tbl) (hg : isNest w = true) : w ∈ lw_n := List.mem_filter.mpr ⟨h, hg⟩
theorem u_ws_good {C : String} {T : u_T} {N : Nat} : ∀ w ∈ u_ws C T N, goodWord w = true := by
  intro w h
  obtain ⟨k, -, rfl⟩ := List.mem_map.mp h
  unfold u_lay
  split <;> rfl
theorem gin : ∀ c, c < 11 → ∀ w ∈ u_ws (gRn c) (gTn c) (gnf c), w ∈ lw_g
  | 0, _, w, h => lw_g_in (gin_of gin_0 w h) (u_ws_good w h)
  | 1, _, w, h => lw_g_in (gin_of gin_1 w h) (u_ws_good w h)
  | 2, _, w, h => lw_g_in (gin_of gin_2 w h) (u_ws_good w h)
  | 3, _, w, h => lw_g_in (gin_of gin_3 w h) (u_ws_good w h)
  | 4, _, w, h => lw_g_in (gin_of gin_4 w h) (u_ws_good w h)
  | 5, _, w, h => lw_g_in (gin_of gin_5 w h) (u_ws_good w h)
  | 6, _, w, h => lw_g_in (gin_of gin_6 w h) (u_ws_good w h)
  | 7, _, w, h => lw_g_in (gin_of gin_7 w h) (u_ws_good w h)
  | 8, _, w, h => lw_g_in (gin_of gin_8 w h) (u_ws_good w h)
  | 9, _, w, h => lw_g_in (gin_of gin_9 w h) (u_ws_good w h)
  | 10, _, w, h => lw_g_in (gin_of gin_10 w h) (u_ws_good w h)
  | n + 11, h, _, _ => absurd h (by omega)
theorem fJx4a65c_9 : FLr RJx4a65c 9 641 := ⟨⟨by decide, by decide, Or.inl (lw_g_in (t1_in (List.mem_of_getElem? (i := 54) (by decide +kernel))) rfl)⟩, Or.inr ⟨_, rfl⟩⟩
theorem mfJx4a65c_9 : FLm RJx4a65c 9 641 := lw_g_in (t1_in (List.mem_of_getElem? (i := 54) (by decide +kernel))) rfl
theorem fJx4a65c_48 : FLi RJx4a65c 48 642 := ⟨⟨by decide, by decide, Or.inl (lw_g_in (t1_in (List.mem_of_getElem? (i := 55) (by decide +kernel))) rfl)⟩, Or.inl rfl⟩
theorem mfJx4a65c_48 : FLm RJx4a65c 48 642 := lw_g_in (t1_in (List.mem_of_getElem? (i := 55) (by decide +kernel))) rfl
theorem fJxc12de_7 : FLi RJxc12de 7 640 := ⟨⟨by decide, by decide, Or.inl (lw_g_in (t1_in (List.mem_of_getElem? (i := 56) (by decide +kernel))) rfl)⟩, Or.inl rfl⟩
theorem mfJxc12de_7 : FLm RJxc12de 7 640 := lw_g_in (t1_in (List.mem_of_getElem? (i := 56) (by decide +kernel))) rfl
theorem fX6_11 : FLr RX6 11 384 := ⟨⟨by decide, by decide, Or.inl (lw_g_in (t1_in (List.mem_of_getElem? (i := 66) (by decide +kernel))) rfl)⟩, Or.inr ⟨_, rfl⟩⟩
theorem mfX6_11 : FLm RX6 11 384 := lw_g_in (t1_in (List.mem_of_getElem? (i := 66) (by decide +kernel))) rfl
theorem fX6_24 : FLi RX6 24 385 := ⟨⟨by decide, by decide, Or.inl (lw_g_in (t1_in (List.mem_of_getElem? (i := 67) (by decide +kernel))) rfl)⟩, Or.inl rfl⟩
theorem mfX6_24 : FLm RX6 24 385 := lw_g_in (t1_in (List.mem_of_getElem? (i := 67) (by decide +kernel))) rfl
theorem fX8_199 : FLi RX8 199 385 := ⟨⟨by decide, by decide, Or.inr ⟨"VersionedRows", lw_n_in (t1_in (List.mem_of_getElem? (i := 68) (by decide +kernel))) rfl⟩⟩, Or.inl rfl⟩
theorem fX6_43 : FLi RX6 43 386 := ⟨⟨by decide, by decide, Or.inl (lw_g_in (t1_in (List.mem_of_getElem? (i := 69) (by decide +kernel))) rfl)⟩, Or.inl rfl⟩
theorem mfX6_43 : FLm RX6 43 386 := lw_g_in (t1_in (List.mem_of_getElem? (i := 69) (by decide +kernel))) rfl
theorem fX8_156 : FLi RX8 156 386 := ⟨⟨by decide, by decide, Or.inr ⟨"VersionedRows", lw_n_in (t1_in (List.mem_of_getElem? (i := 70) (by decide +kernel))) rfl⟩⟩, Or.inl rfl⟩
theorem fX6_20 : FLr RX6 20 387 := ⟨⟨by decide, by decide, Or.inl (lw_g_in (t1_in (List.mem_of_getElem? (i := 71) (by decide +kernel))) rfl)⟩, Or.inl ⟨_, rfl⟩⟩
theorem mfX6_20 : FLm RX6 20 387 := lw_g_in (t1_in (List.mem_of_getElem? (i := 71) (by decide +kernel))) rfl
theorem fX6_81 : FLi RX6 81 388 := ⟨⟨by decide, by decide, Or.inl (lw_g_in (t1_in (List.mem_of_getElem? (i := 72) (by decide +kernel))) rfl)⟩, Or.inl rfl⟩
theorem mfX6_81 : FLm RX6 81 388 := lw_g_in (t1_in (List.mem_of_getElem? (i := 72) (by decide +kernel))) rfl
theorem fX8_11 : FLr RX8 11 512 := ⟨⟨by decide, by decide, Or.inl (lw_g_in (t1_in (List.mem_of_getElem? (i := 84) (by decide +kernel))) rfl)⟩, Or.inr ⟨_, rfl⟩⟩
theorem mfX8_11 : FLm RX8 11 512 := lw_g_in (t1_in (List.mem_of_getElem? (i := 84) (by decide +kernel))) rfl
theorem fX8_47 : FLi RX8 47 513 := ⟨⟨by decide, by decide, Or.inl (lw_g_in (t1_in (List.mem_of_getElem? (i := 85) (by decide +kernel))) rfl)⟩, Or.inl rfl⟩
theorem mfX8_47 : FLm RX8 47 513 := lw_g_in (t1_in (List.mem_of_getElem? (i := 85) (by decide +kernel))) rfl
theorem fX8_15 : FLr RX8 15 514 := ⟨⟨by decide, by decide, Or.inl (lw_g_in (t1_in (List.mem_of_getElem? (i := 86) (by decide +kernel))) rfl)⟩, Or.inr ⟨_, rfl⟩⟩
theorem mfX8_15 : FLm RX8 15 514 := lw_g_in (t1_in (List.mem_of_getElem? (i := 86) (by decide +kernel))) rfl
theorem fX8_72 : FLi RX8 72 515 := ⟨⟨by decide, by decide, Or.inl (lw_g_in (t1_in (List.mem_of_getElem? (i := 87) (by decide +kernel))) rfl)⟩, Or.inl rfl⟩
theorem mfX8_72 : FLm RX8 72 515 := lw_g_in (t1_in (List.mem_of_getElem? (i := 87) (by decide +kernel))) rfl
theorem fX8_20 : FLr RX8 20 516 := ⟨⟨by decide, by decide, Or.inl (lw_g_in (t1_in (List.mem_of_getElem? (i := 88) (by decide +kernel))) rfl)⟩, Or.inr ⟨_, rfl⟩⟩
theorem mfX8_20 : FLm RX8 20 516 := lw_g_in (t1_in (List.mem_of_getElem? (i := 88) (by decide +kernel))) rfl
theorem fX8_78 : FLi RX8 78 517 := ⟨⟨by decide, by decide, Or.inl (lw_g_in (t1_in (List.mem_of_getElem? (i := 89) (by decide +kernel))) rfl)⟩, Or.inl rfl⟩
theorem mfX8_78 : FLm RX8 78 517 := lw_g_in (t1_in (List.mem_of_getElem? (i := 89) (by decide +kernel))) rfl
theorem fX8_27 : FLr RX8 27 518 := ⟨⟨by decide, by decide, Or.inl (lw_g_in (t1_in (List.mem_of_getElem? (i := 90) (by decide +kernel))) rfl)⟩, Or.inl ⟨_, rfl⟩⟩
theorem mfX8_27 : FLm RX8 27 518 := lw_g_in (t1_in (List.mem_of_getElem? (i := 90) (by decide +kernel))) rfl
theorem fX8_75 : FLi RX8 75 519 := ⟨⟨by decide, by decide, Or.inl (lw_g_in (t1_in (List.mem_of_getElem? (i := 91) (by decide +kernel))) rfl)⟩, Or.inl rfl⟩
theorem mfX8_75 : FLm RX8 75 519 := lw_g_in (t1_in (List.mem_of_getElem? (i := 91) (by decide +kernel))) rfl
theorem fX8_31 : FLr RX8 31 520 := ⟨⟨by decide, by decide, Or.inl (lw_g_in (t1_in (List.mem_of_getElem? (i := 92) (by decide +kernel))) rfl)⟩, Or.inr ⟨_, rfl⟩⟩
theorem mfX8_31 : FLm RX8 31 520 := lw_g_in (t1_in (List.mem_of_getElem? (i := 92) (by decide +kernel))) rfl
theorem fX8_131 : FLi RX8 131 521 := ⟨⟨by decide, by decide, Or.inl (lw_g_in (t1_in (List.mem_of_getElem? (i := 93) (by decide +kernel))) rfl)⟩, Or.inl rfl⟩
theorem mfX8_131 : FLm RX8 131 521 := lw_g_in (t1_in (List.mem_of_getElem? (i := 93) (by decide +kernel))) rfl
theorem fX8_35 : FLi RX8 35 522 := ⟨⟨by decide, by decide, Or.inl (lw_g_in (t1_in (List.mem_of_getElem? (i := 94) (by decide +kernel))) rfl)⟩, Or.inl rfl⟩
theorem mfX8_35 : FLm RX8 35 522 := lw_g_in (t1_in (List.mem_of_getElem? (i := 94) (by decide +kernel))) rfl
theorem fX8_181 : FLr RX8 181 523 := ⟨⟨by decide, by decide, Or.inl (lw_g_in (t1_in (List.mem_of_getElem? (i := 95) (by decide +kernel))) rfl)⟩, Or.inl ⟨_, rfl⟩⟩
theorem mfX8_181 : FLm RX8 181 523 := lw_g_in (t1_in (List.mem_of_getElem? (i := 95) (by decide +kernel))) rfl
theorem fX8_178 : FLi RX8 178 524 := ⟨⟨by decide, by decide, Or.inl (lw_g_in (t1_in (List.mem_of_getElem? (i := 96) (by decide +kernel))) rfl)⟩, Or.inl rfl⟩
theorem mfX8_178 : FLm RX8 178 524 := lw_g_in (t1_in (List.mem_of_getElem? (i := 96) (by decide +kernel))) rfl
theorem fX1_9 : FLi RX1 9 64 := ⟨⟨by decide, by decide, Or.inl (lw_g_in (t1_in (List.mem_of_getElem? (i := 157) (by decide +kernel))) rfl)⟩, Or.inl rfl⟩
theorem mfX1_9 : FLm RX1 9 64 := lw_g_in (t1_in (List.mem_of_getElem? (i := 157) (by decide +kernel))) rfl
theorem fX2_26 : FLi RX2 26 64 := ⟨⟨by decide, by decide, Or.inr ⟨"VersionedRows", lw_n_in (t1_in (List.mem_of_getElem? (i := 158) (by decide +kernel))) rfl⟩⟩, Or.inl rfl⟩
theorem fX1_15 : FLi RX1 15 65 := ⟨⟨by decide, by decide, Or.inl (lw_g_in (t1_in (List.mem_of_getElem? (i := 159) (by decide +kernel))) rfl)⟩, Or.inl rfl⟩
theorem mfX1_15 : FLm RX1 15 65 := lw_g_in (t1_in (List.mem_of_getElem? (i := 159) (by decide +kernel))) rfl
theorem fX2_54 : FLi RX2 54 65 := ⟨⟨by decide, by decide, Or.inr ⟨"VersionedRows", lw_n_in (t1_in (List.mem_of_getElem? (i := 160) (by decide +kernel))) rfl⟩⟩, Or.inl rfl⟩
theorem fX1_18 : FLr RX1 18 66 := ⟨⟨by decide, by decide, Or.inl (lw_g_in (t1_in (List.mem_of_getElem? (i := 161) (by decide +kernel))) rfl)⟩, Or.inl ⟨_, rfl⟩⟩
theorem mfX1_18 : FLm RX1 18 66 := lw_g_in (t1_in (List.mem_of_getElem? (i := 161) (by decide +kernel))) rfl
theorem fX2_32 : FLr RX2 32 66 := ⟨⟨by decide, by decide, Or.inr ⟨"VersionedRows", lw_n_in (t1_in (List.mem_of_getElem? (i := 162) (by decide +kernel))) rfl⟩⟩, Or.inl ⟨_, rfl⟩⟩
theorem fX1_22 : FLr RX1 22 67 := ⟨⟨by decide, by decide, Or.inl (lw_g_in (t1_in (List.mem_of_getElem? (i := 163) (by decide +kernel))) rfl)⟩, Or.inl ⟨_, rfl⟩⟩
theorem mfX1_22 : FLm RX1 22 67 := lw_g_in (t1_in (List.mem_of_getElem? (i := 163) (by decide +kernel))) rfl
theorem fX2_39 : FLr RX2 39 67 := ⟨⟨by decide, by decide, Or.inr ⟨"VersionedRows", lw_n_in (t1_in (List.mem_of_getElem? (i := 164) (by decide +kernel))) rfl⟩⟩, Or.inl ⟨_, rfl⟩⟩
theorem fX1_29 : FLi RX1 29 68 := ⟨⟨by decide, by decide, Or.inl (lw_g_in (t1_in (List.mem_of_getElem? (i := 165) (by decide +kernel))) rfl)⟩, Or.inl rfl⟩
theorem mfX1_29 : FLm RX1 29 68 := lw_g_in (t1_in (List.mem_of_getElem? (i := 165) (by decide +kernel))) rfl
theorem fX7_25 : FLi RX7 25 448 := ⟨⟨by decide, by decide, Or.inl (lw_g_in (t1_in (List.mem_of_getElem? (i := 204) (by decide +kernel))) rfl)⟩, Or.inl rfl⟩
theorem mfX7_25 : FLm RX7 25 448 := lw_g_in (t1_in (List.mem_of_getElem? (i := 204) (by decide +kernel))) rfl
theorem fX8_121 : FLi RX8 121 448 := ⟨⟨by decide, by decide, Or.inr ⟨"VersionedRows", lw_n_in (t1_in (List.mem_of_getElem? (i := 205) (by decide +kernel))) rfl⟩⟩, Or.inl rfl⟩
theorem fX7_9 : FLi RX7 9 449 := ⟨⟨by decide, by decide, Or.inl (lw_g_in (t1_in (List.mem_of_getElem? (i := 206) (by decide +kernel))) rfl)⟩, Or.inl rfl⟩
theorem mfX7_9 : FLm RX7 9 449 := lw_g_in (t1_in (List.mem_of_getElem? (i := 206) (by decide +kernel))) rfl
theorem fX8_138 : FLi RX8 138 449 := ⟨⟨by decide, by decide, Or.inr ⟨"VersionedRows", lw_n_in (t1_in (List.mem_of_getElem? (i := 207) (by decide +kernel))) rfl⟩⟩, Or.inl rfl⟩
theorem fX7_28 : FLi RX7 28 450 := ⟨⟨by decide, by decide, Or.inl (lw_g_in (t1_in (List.mem_of_getElem? (i := 208) (by decide +kernel))) rfl)⟩, Or.inr rfl⟩
theorem mfX7_28 : FLm RX7 28 450 := lw_g_in (t1_in (List.mem_of_getElem? (i := 208) (by decide +kernel))) rfl
theorem fX8_141 : FLi RX8 141 450 := ⟨⟨by decide, by decide, Or.inr ⟨"VersionedRows", lw_n_in (t1_in (List.mem_of_getElem? (i := 209) (by decide +kernel))) rfl⟩⟩, Or.inr rfl⟩
theorem fX7_15 : FLr RX7 15 451 := ⟨⟨by decide, by decide, Or.inl (lw_g_in (t1_in (List.mem_of_getElem? (i := 210) (by decide +kernel))) rfl)⟩, Or.inr ⟨_, rfl⟩⟩
theorem mfX7_15 : FLm RX7 15 451 := lw_g_in (t1_in (List.mem_of_getElem? (i := 210) (by decide +kernel))) rfl
theorem fX8_225 : FLr RX8 225 451 := ⟨⟨by decide, by decide, Or.inr ⟨"VersionedRows", lw_n_in (t1_in (List.mem_of_getElem? (i := 211) (by decide +kernel))) rfl⟩⟩, Or.inr ⟨_, rfl⟩⟩
theorem fX7_21 : FLr RX7 21 452 := ⟨⟨by decide, by decide, Or.inl (lw_g_in (t1_in (List.mem_of_getElem? (i := 212) (by decide +kernel))) rfl)⟩, Or.inr ⟨_, rfl⟩⟩
theorem mfX7_21 : FLm RX7 21 452 := lw_g_in (t1_in (List.mem_of_getElem? (i := 212) (by decide +kernel))) rfl
theorem fX8_229 : FLr RX8 229 452 := ⟨⟨by decide, by decide, Or.inr ⟨"VersionedRows", lw_n_in (t1_in (List.mem_of_getElem? (i := 213) (by decide +kernel))) rfl⟩⟩, Or.inr ⟨_, rfl⟩⟩
theorem fX3_9 : FLi RX3 9 192 := ⟨⟨by decide, by decide, Or.inl (lw_g_in (t2_in (List.mem_of_getElem? (i := 36) (by decide +kernel))) rfl)⟩, Or.inl rfl⟩
theorem mfX3_9 : FLm RX3 9 192 := lw_g_in (t2_in (List.mem_of_getElem? (i := 36) (by decide +kernel))) rfl
theorem fX8_99 : FLi RX8 99 192 := ⟨⟨by decide, by decide, Or.inr ⟨"VersionedRows", lw_n_in (t2_in (List.mem_of_getElem? (i := 37) (by decide +kernel))) rfl⟩⟩, Or.inl rfl⟩
theorem fX1_36 : FLi RX1 36 192 := ⟨⟨by decide, by decide, Or.inr ⟨"VersionedRows", lw_n_in (t2_in (List.mem_of_getElem? (i := 38) (by decide +kernel))) rfl⟩⟩, Or.inl rfl⟩
theorem fX3_15 : FLi RX3 15 193 := ⟨⟨by decide, by decide, Or.inl (lw_g_in (t2_in (List.mem_of_getElem? (i := 39) (by decide +kernel))) rfl)⟩, Or.inl rfl⟩
theorem mfX3_15 : FLm RX3 15 193 := lw_g_in (t2_in (List.mem_of_getElem? (i := 39) (by decide +kernel))) rfl
theorem fX8_104 : FLi RX8 104 193 := ⟨⟨by decide, by decide, Or.inr ⟨"VersionedRows", lw_n_in (t2_in (List.mem_of_getElem? (i := 40) (by decide +kernel))) rfl⟩⟩, Or.inl rfl⟩
theorem fX1_41 : FLi RX1 41 193 := ⟨⟨by decide, by decide, Or.inr ⟨"VersionedRows", lw_n_in (t2_in (List.mem_of_getElem? (i := 41) (by decide +kernel))) rfl⟩⟩, Or.inl rfl⟩
theorem fX3_18 : FLi RX3 18 194 := ⟨⟨by decide, by decide, Or.inl (lw_g_in (t2_in (List.mem_of_getElem? (i := 42) (by decide +kernel))) rfl)⟩, Or.inl rfl⟩
theorem mfX3_18 : FLm RX3 18 194 := lw_g_in (t2_in (List.mem_of_getElem? (i := 42) (by decide +kernel))) rfl
theorem fX8_107 : FLi RX8 107 194 := ⟨⟨by decide, by decide, Or.inr ⟨"VersionedRows", lw_n_in (t2_in (List.mem_of_getElem? (i := 43) (by decide +kernel))) rfl⟩⟩, Or.inl rfl⟩
theorem fX1_44 : FLi RX1 44 194 := ⟨⟨by decide, by decide, Or.inr ⟨"VersionedRows", lw_n_in (t2_in (List.mem_of_getElem? (i := 44) (by decide +kernel))) rfl⟩⟩, Or.inl rfl⟩
theorem fX2_22 : FLr RX2 22 128 := ⟨⟨by decide, by decide, Or.inl (lw_g_in (t2_in (List.mem_of_getElem? (i := 76) (by decide +kernel))) rfl)⟩, Or.inl ⟨_, rfl⟩⟩
theorem mfX2_22 : FLm RX2 22 128 := lw_g_in (t2_in (List.mem_of_getElem? (i := 76) (by decide +kernel))) rfl
theorem fX2_11 : FLj RX2 11 129 := ⟨⟨by decide, by decide, Or.inl (lw_g_in (t2_in (List.mem_of_getElem? (i := 77) (by decide +kernel))) rfl)⟩, rfl⟩
theorem mfX2_11 : FLm RX2 11 129 := lw_g_in (t2_in (List.mem_of_getElem? (i := 77) (by decide +kernel))) rfl
theorem fX8_185 : FLj RX8 185 129 := ⟨⟨by decide, by decide, Or.inr ⟨"VersionedRows", lw_n_in (t2_in (List.mem_of_getElem? (i := 78) (by decide +kernel))) rfl⟩⟩, rfl⟩
theorem fX2_19 : FLj RX2 19 130 := ⟨⟨by decide, by decide, Or.inl (lw_g_in (t2_in (List.mem_of_getElem? (i := 79) (by decide +kernel))) rfl)⟩, rfl⟩
theorem mfX2_19 : FLm RX2 19 130 := lw_g_in (t2_in (List.mem_of_getElem? (i := 79) (by decide +kernel))) rfl
theorem fX8_191 : FLj RX8 191 130 := ⟨⟨by decide, by decide, Or.inr ⟨"VersionedRows", lw_n_in (t2_in (List.mem_of_getElem? (i := 80) (by decide +kernel))) rfl⟩⟩, rfl⟩
theorem fX2_70 : FLi RX2 70 131 := ⟨⟨by decide, by decide, Or.inl (lw_g_in (t2_in (List.mem_of_getElem? (i := 81) (by decide +kernel))) rfl)⟩, Or.inr rfl⟩
theorem mfX2_70 : FLm RX2 70 131 := lw_g_in (t2_in (List.mem_of_getElem? (i := 81) (by decide +kernel))) rfl
theorem fX8_279 : FLi RX8 279 131 := ⟨⟨by decide, by decide, Or.inr ⟨"VersionedRows", lw_n_in (t2_in (List.mem_of_getElem? (i := 82) (by decide +kernel))) rfl⟩⟩, Or.inr rfl⟩
theorem fX0_9 : FLi RX0 9 0 := ⟨⟨by decide, by decide, Or.inl (lw_g_in (t2_in (List.mem_of_getElem? (i := 193) (by decide +kernel))) rfl)⟩, Or.inl rfl⟩
theorem mfX0_9 : FLm RX0 9 0 := lw_g_in (t2_in (List.mem_of_getElem? (i := 193) (by decide +kernel))) rfl
theorem fX5_38 : FLi RX5 38 0 := ⟨⟨by decide, by decide, Or.inr ⟨"VersionedRows", lw_n_in (t2_in (List.mem_of_getElem? (i := 194) (by decide +kernel))) rfl⟩⟩, Or.inl rfl⟩
theorem fX0_15 : FLi RX0 15 1 := ⟨⟨by decide, by decide, Or.inl (lw_g_in (t2_in (List.mem_of_getElem? (i := 195) (by decide +kernel))) rfl)⟩, Or.inl rfl⟩
theorem mfX0_15 : FLm RX0 15 1 := lw_g_in (t2_in (List.mem_of_getElem? (i := 195) (by decide +kernel))) rfl
theorem fX5_41 : FLi RX5 41 1 := ⟨⟨by decide, by decide, Or.inr ⟨"VersionedRows", lw_n_in (t2_in (List.mem_of_getElem? (i := 196) (by decide +kernel))) rfl⟩⟩, Or.inl rfl⟩
theorem fX0_18 : FLi RX0 18 2 := ⟨⟨by decide, by decide, Or.inl (lw_g_in (t2_in (List.mem_of_getElem? (i := 197) (by decide +kernel))) rfl)⟩, Or.inl rfl⟩
theorem mfX0_18 : FLm RX0 18 2 := lw_g_in (t2_in (List.mem_of_getElem? (i := 197) (by decide +kernel))) rfl
theorem fX5_44 : FLi RX5 44 2 := ⟨⟨by decide, by decide, Or.inr ⟨"VersionedRows", lw_n_in (t2_in (List.mem_of_getElem? (i := 198) (by decide +kernel))) rfl⟩⟩, Or.inl rfl⟩
theorem fX0_25 : FLj RX0 25 3 := ⟨⟨by decide, by decide, Or.inl (lw_g_in (t2_in (List.mem_of_getElem? (i := 199) (by decide +kernel))) rfl)⟩, rfl⟩
theorem mfX0_25 : FLm RX0 25 3 := lw_g_in (t2_in (List.mem_of_getElem? (i := 199) (by decide +kernel))) rfl
theorem fX4_21 : FLj RX4 21 3 := ⟨⟨by decide, by decide, Or.inr ⟨"VersionedRows", lw_n_in (t2_in (List.mem_of_getElem? (i := 200) (by decide +kernel))) rfl⟩⟩, rfl⟩
theorem fX6_32 : FLj RX6 32 3 := ⟨⟨by decide, by decide, Or.inr ⟨"VersionedRows", lw_n_in (t2_in (List.mem_of_getElem? (i := 201) (by decide +kernel))) rfl⟩⟩, rfl⟩
theorem fX5_34 : FLj RX5 34 3 := ⟨⟨by decide, by decide, Or.inr ⟨"VersionedRows", lw_n_in (t2_in (List.mem_of_getElem? (i := 202) (by decide +kernel))) rfl⟩⟩, rfl⟩
theorem fX0_29 : FLi RX0 29 4 := ⟨⟨by decide, by decide, Or.inl (lw_g_in (t2_in (List.mem_of_getElem? (i := 203) (by decide +kernel))) rfl)⟩, Or.inl rfl⟩
theorem mfX0_29 : FLm RX0 29 4 := lw_g_in (t2_in (List.mem_of_getElem? (i := 203) (by decide +kernel))) rfl
theorem fX4_30 : FLi RX4 30 4 := ⟨⟨by decide, by decide, Or.inr ⟨"VersionedRows", lw_n_in (t2_in (List.mem_of_getElem? (i := 204) (by decide +kernel))) rfl⟩⟩, Or.inl rfl⟩
theorem fX6_36 : FLi RX6 36 4 := ⟨⟨by decide, by decide, Or.inr ⟨"VersionedRows", lw_n_in (t2_in (List.mem_of_getElem? (i := 205) (by decide +kernel))) rfl⟩⟩, Or.inl rfl⟩
theorem fX0_32 : FLr RX0 32 5 := ⟨⟨by decide, by decide, Or.inl (lw_g_in (t2_in (List.mem_of_getElem? (i := 206) (by decide +kernel))) rfl)⟩, Or.inl ⟨_, rfl⟩⟩
theorem mfX0_32 : FLm RX0 32 5 := lw_g_in (t2_in (List.mem_of_getElem? (i := 206) (by decide +kernel))) rfl
theorem fX4_33 : FLr RX4 33 5 := ⟨⟨by decide, by decide, Or.inr ⟨"VersionedRows", lw_n_in (t2_in (List.mem_of_getElem? (i := 207) (by decide +kernel))) rfl⟩⟩, Or.inl ⟨_, rfl⟩⟩
theorem fX6_58 : FLr RX6 58 5 := ⟨⟨by decide, by decide, Or.inr ⟨"VersionedRows", lw_n_in (t2_in (List.mem_of_getElem? (i := 208) (by decide +kernel))) rfl⟩⟩, Or.inl ⟨_, rfl⟩⟩
theorem fX5_25 : FLr RX5 25 6 := ⟨⟨by decide, by decide, Or.inr ⟨"VersionedRows", lw_n_in (t2_in (List.mem_of_getElem? (i := 209) (by decide +kernel))) rfl⟩⟩, Or.inl ⟨_, rfl⟩⟩
theorem fX0_38 : FLr RX0 38 6 := ⟨⟨by decide, by decide, Or.inl (lw_g_in (t2_in (List.mem_of_getElem? (i := 210) (by decide +kernel))) rfl)⟩, Or.inl ⟨_, rfl⟩⟩
theorem mfX0_38 : FLm RX0 38 6 := lw_g_in (t2_in (List.mem_of_getElem? (i := 210) (by decide +kernel))) rfl
theorem fX6_67 : FLr RX6 67 6 := ⟨⟨by decide, by decide, Or.inr ⟨"VersionedRows", lw_n_in (t2_in (List.mem_of_getElem? (i := 211) (by decide +kernel))) rfl⟩⟩, Or.inl ⟨_, rfl⟩⟩
theorem fX5_9 : FLi RX5 9 320 := ⟨⟨by decide, by decide, Or.inl (lw_g_in (t3_in (List.mem_of_getElem? (i := 14) (by decide +kernel))) rfl)⟩, Or.inl rfl⟩
theorem mfX5_9 : FLm RX5 9 320 := lw_g_in (t3_in (List.mem_of_getElem? (i := 14) (by decide +kernel))) rfl
theorem fX5_15 : FLi RX5 15 321 := ⟨⟨by decide, by decide, Or.inl (lw_g_in (t3_in (List.mem_of_getElem? (i := 15) (by decide +kernel))) rfl)⟩, Or.inl rfl⟩
theorem mfX5_15 : FLm RX5 15 321 := lw_g_in (t3_in (List.mem_of_getElem? (i := 15) (by decide +kernel))) rfl
theorem fX6_99 : FLi RX6 99 321 := ⟨⟨by decide, by decide, Or.inr ⟨"VersionedRows", lw_n_in (t3_in (List.mem_of_getElem? (i := 16) (by decide +kernel))) rfl⟩⟩, Or.inl rfl⟩
theorem fX5_18 : FLr RX5 18 322 := ⟨⟨by decide, by decide, Or.inl (lw_g_in (t3_in (List.mem_of_getElem? (i := 17) (by decide +kernel))) rfl)⟩, Or.inl ⟨_, rfl⟩⟩
theorem mfX5_18 : FLm RX5 18 322 := lw_g_in (t3_in (List.mem_of_getElem? (i := 17) (by decide +kernel))) rfl
theorem fX5_22 : FLr RX5 22 323 := ⟨⟨by decide, by decide, Or.inl (lw_g_in (t3_in (List.mem_of_getElem? (i := 18) (by decide +kernel))) rfl)⟩, Or.inl ⟨_, rfl⟩⟩
theorem mfX5_22 : FLm RX5 22 323 := lw_g_in (t3_in (List.mem_of_getElem? (i := 18) (by decide +kernel))) rfl
theorem fX5_31 : FLi RX5 31 324 := ⟨⟨by decide, by decide, Or.inl (lw_g_in (t3_in (List.mem_of_getElem? (i := 19) (by decide +kernel))) rfl)⟩, Or.inl rfl⟩
theorem mfX5_31 : FLm RX5 31 324 := lw_g_in (t3_in (List.mem_of_getElem? (i := 19) (by decide +kernel))) rfl
theorem fX0_42 : FLi RX0 42 325 := ⟨⟨by decide, by decide, Or.inr ⟨"VersionedRows", lw_n_in (t3_in (List.mem_of_getElem? (i := 20) (by decide +kernel))) rfl⟩⟩, Or.inr rfl⟩
theorem fX6_122 : FLi RX6 122 325 := ⟨⟨by decide, by decide, Or.inr ⟨"VersionedRows", lw_n_in (t3_in (List.mem_of_getElem? (i := 21) (by decide +kernel))) rfl⟩⟩, Or.inr rfl⟩
theorem fX4_7 : FLi RX4 7 256 := ⟨⟨by decide, by decide, Or.inl (lw_g_in (t3_in (List.mem_of_getElem? (i := 164) (by decide +kernel))) rfl)⟩, Or.inl rfl⟩
theorem mfX4_7 : FLm RX4 7 256 := lw_g_in (t3_in (List.mem_of_getElem? (i := 164) (by decide +kernel))) rfl
theorem fX4_13 : FLi RX4 13 257 := ⟨⟨by decide, by decide, Or.inl (lw_g_in (t3_in (List.mem_of_getElem? (i := 165) (by decide +kernel))) rfl)⟩, Or.inr rfl⟩
theorem mfX4_13 : FLm RX4 13 257 := lw_g_in (t3_in (List.mem_of_getElem? (i := 165) (by decide +kernel))) rfl
theorem fX4_17 : FLr RX4 17 258 := ⟨⟨by decide, by decide, Or.inl (lw_g_in (t3_in (List.mem_of_getElem? (i := 166) (by decide +kernel))) rfl)⟩, Or.inl ⟨_, rfl⟩⟩
theorem mfX4_17 : FLm RX4 17 258 := lw_g_in (t3_in (List.mem_of_getElem? (i := 166) (by decide +kernel))) rfl
theorem fX4_27 : FLi RX4 27 259 := ⟨⟨by decide, by decide, Or.inl (lw_g_in (t3_in (List.mem_of_getElem? (i := 167) (by decide +kernel))) rfl)⟩, Or.inr rfl⟩
theorem mfX4_27 : FLm RX4 27 259 := lw_g_in (t3_in (List.mem_of_getElem? (i := 167) (by decide +kernel))) rfl
theorem fX9_85 : FLi RX9 85 576 := ⟨⟨by decide, by decide, Or.inl (lw_g_in (t4_in (List.mem_of_getElem? (i := 14) (by decide +kernel))) rfl)⟩, Or.inl rfl⟩
theorem mfX9_85 : FLm RX9 85 576 := lw_g_in (t4_in (List.mem_of_getElem? (i := 14) (by decide +kernel))) rfl
theorem fX9_100 : FLi RX9 100 577 := ⟨⟨by decide, by decide, Or.inl (lw_g_in (t4_in (List.mem_of_getElem? (i := 15) (by decide +kernel))) rfl)⟩, Or.inl rfl⟩
theorem mfX9_100 : FLm RX9 100 577 := lw_g_in (t4_in (List.mem_of_getElem? (i := 15) (by decide +kernel))) rfl
theorem fX9_7 : FLr RX9 7 578 := ⟨⟨by decide, by decide, Or.inl (lw_g_in (t4_in (List.mem_of_getElem? (i := 16) (by decide +kernel))) rfl)⟩, Or.inr ⟨_, rfl⟩⟩
theorem mfX9_7 : FLm RX9 7 578 := lw_g_in (t4_in (List.mem_of_getElem? (i := 16) (by decide +kernel))) rfl
theorem fX9_13 : FLr RX9 13 579 := ⟨⟨by decide, by decide, Or.inl (lw_g_in (t4_in (List.mem_of_getElem? (i := 17) (by decide +kernel))) rfl)⟩, Or.inr ⟨_, rfl⟩⟩
theorem mfX9_13 : FLm RX9 13 579 := lw_g_in (t4_in (List.mem_of_getElem? (i := 17) (by decide +kernel))) rfl
theorem fX9_16 : FLr RX9 16 580 := ⟨⟨by decide, by decide, Or.inl (lw_g_in (t4_in (List.mem_of_getElem? (i := 18) (by decide +kernel))) rfl)⟩, Or.inr ⟨_, rfl⟩⟩
theorem mfX9_16 : FLm RX9 16 580 := lw_g_in (t4_in (List.mem_of_getElem? (i := 18) (by decide +kernel))) rfl
theorem fX9_19 : FLr RX9 19 581 := ⟨⟨by decide, by decide, Or.inl (lw_g_in (t4_in (List.mem_of_getElem? (i := 19) (by decide +kernel))) rfl)⟩, Or.inr ⟨_, rfl⟩⟩
theorem mfX9_19 : FLm RX9 19 581 := lw_g_in (t4_in (List.mem_of_getElem? (i := 19) (by decide +kernel))) rfl
theorem fX9_106 : FLi RX9 106 582 := ⟨⟨by decide, by decide, Or.inl (lw_g_in (t4_in (List.mem_of_getElem? (i := 20) (by decide +kernel))) rfl)⟩, Or.inl rfl⟩
theorem mfX9_106 : FLm RX9 106 582 := lw_g_in (t4_in (List.mem_of_getElem? (i := 20) (by decide +kernel))) rfl
theorem fX9_23 : FLr RX9 23 583 := ⟨⟨by decide, by decide, Or.inl (lw_g_in (t4_in (List.mem_of_getElem? (i := 21) (by decide +kernel))) rfl)⟩, Or.inr ⟨_, rfl⟩⟩
theorem mfX9_23 : FLm RX9 23 583 := lw_g_in (t4_in (List.mem_of_getElem? (i := 21) (by decide +kernel))) rfl
theorem fX9_26 : FLr RX9 26 584 := ⟨⟨by decide, by decide, Or.inl (lw_g_in (t4_in (List.mem_of_getElem? (i := 22) (by decide +kernel))) rfl)⟩, Or.inr ⟨_, rfl⟩⟩
theorem mfX9_26 : FLm RX9 26 584 := lw_g_in (t4_in (List.mem_of_getElem? (i := 22) (by decide +kernel))) rfl
theorem fX9_29 : FLr RX9 29 585 := ⟨⟨by decide, by decide, Or.inl (lw_g_in (t4_in (List.mem_of_getElem? (i := 23) (by decide +kernel))) rfl)⟩, Or.inr ⟨_, rfl⟩⟩
theorem mfX9_29 : FLm RX9 29 585 := lw_g_in (t4_in (List.mem_of_getElem? (i := 23) (by decide +kernel))) rfl
theorem fX9_32 : FLr RX9 32 586 := ⟨⟨by decide, by decide, Or.inl (lw_g_in (t4_in (List.mem_of_getElem? (i := 24) (by decide +kernel))) rfl)⟩, Or.inr ⟨_, rfl⟩⟩
theorem mfX9_32 : FLm RX9 32 586 := lw_g_in (t4_in (List.mem_of_getElem? (i := 24) (by decide +kernel))) rfl
theorem fX9_35 : FLr RX9 35 587 := ⟨⟨by decide, by decide, Or.inl (lw_g_in (t4_in (List.mem_of_getElem? (i := 25) (by decide +kernel))) rfl)⟩, Or.inr ⟨_, rfl⟩⟩
theorem mfX9_35 : FLm RX9 35 587 := lw_g_in (t4_in (List.mem_of_getElem? (i := 25) (by decide +kernel))) rfl
theorem fX9_38 : FLr RX9 38 588 := ⟨⟨by decide, by decide, Or.inl (lw_g_in (t4_in (List.mem_of_getElem? (i := 26) (by decide +kernel))) rfl)⟩, Or.inr ⟨_, rfl⟩⟩
theorem mfX9_38 : FLm RX9 38 588 := lw_g_in (t4_in (List.mem_of_getElem? (i := 26) (by decide +kernel))) rfl
theorem fX9_41 : FLr RX9 41 589 := ⟨⟨by decide, by decide, Or.inl (lw_g_in (t4_in (List.mem_of_getElem? (i := 27) (by decide +kernel))) rfl)⟩, Or.inr ⟨_, rfl⟩⟩
theorem mfX9_41 : FLm RX9 41 589 := lw_g_in (t4_in (List.mem_of_getElem? (i := 27) (by decide +kernel))) rfl
theorem fX9_167 : FLi RX9 167 590 := ⟨⟨by decide, by decide, Or.inl (lw_g_in (t4_in (List.mem_of_getElem? (i := 28) (by decide +kernel))) rfl)⟩, Or.inl rfl⟩
theorem mfX9_167 : FLm RX9 167 590 := lw_g_in (t4_in (List.mem_of_getElem? (i := 28) (by decide +kernel))) rfl
theorem fX9_44 : FLr RX9 44 591 := ⟨⟨by decide, by decide, Or.inl (lw_g_in (t4_in (List.mem_of_getElem? (i := 29) (by decide +kernel))) rfl)⟩, Or.inr ⟨_, rfl⟩⟩
theorem mfX9_44 : FLm RX9 44 591 := lw_g_in (t4_in (List.mem_of_getElem? (i := 29) (by decide +kernel))) rfl
theorem fX9_47 : FLr RX9 47 592 := ⟨⟨by decide, by decide, Or.inl (lw_g_in (t4_in (List.mem_of_getElem? (i := 30) (by decide +kernel))) rfl)⟩, Or.inr ⟨_, rfl⟩⟩
theorem mfX9_47 : FLm RX9 47 592 := lw_g_in (t4_in (List.mem_of_getElem? (i := 30) (by decide +kernel))) rfl
theorem fX9_164 : FLi RX9 164 593 := ⟨⟨by decide, by decide, Or.inl (lw_g_in (t4_in (List.mem_of_getElem? (i := 31) (by decide +kernel))) rfl)⟩, Or.inl rfl⟩
theorem mfX9_164 : FLm RX9 164 593 := lw_g_in (t4_in (List.mem_of_getElem? (i := 31) (by decide +kernel))) rfl
theorem fX9_103 : FLi RX9 103 594 := ⟨⟨by decide, by decide, Or.inl (lw_g_in (t4_in (List.mem_of_getElem? (i := 32) (by decide +kernel))) rfl)⟩, Or.inl rfl⟩
theorem mfX9_103 : FLm RX9 103 594 := lw_g_in (t4_in (List.mem_of_getElem? (i := 32) (by decide +kernel))) rfl
theorem fX9_116 : FLi RX9 116 595 := ⟨⟨by decide, by decide, Or.inl (lw_g_in (t4_in (List.mem_of_getElem? (i := 33) (by decide +kernel))) rfl)⟩, Or.inl rfl⟩
theorem mfX9_116 : FLm RX9 116 595 := lw_g_in (t4_in (List.mem_of_getElem? (i := 33) (by decide +kernel))) rfl
theorem fX9_50 : FLr RX9 50 596 := ⟨⟨by decide, by decide, Or.inl (lw_g_in (t4_in (List.mem_of_getElem? (i := 34) (by decide +kernel))) rfl)⟩, Or.inr ⟨_, rfl⟩⟩
theorem mfX9_50 : FLm RX9 50 596 := lw_g_in (t4_in (List.mem_of_getElem? (i := 34) (by decide +kernel))) rfl
theorem fX9_53 : FLr RX9 53 597 := ⟨⟨by decide, by decide, Or.inl (lw_g_in (t4_in (List.mem_of_getElem? (i := 35) (by decide +kernel))) rfl)⟩, Or.inr ⟨_, rfl⟩⟩
theorem mfX9_53 : FLm RX9 53 597 := lw_g_in (t4_in (List.mem_of_getElem? (i := 35) (by decide +kernel))) rfl
theorem fX9_56 : FLr RX9 56 598 := ⟨⟨by decide, by decide, Or.inl (lw_g_in (t4_in (List.mem_of_getElem? (i := 36) (by decide +kernel))) rfl)⟩, Or.inr ⟨_, rfl⟩⟩
theorem mfX9_56 : FLm RX9 56 598 := lw_g_in (t4_in (List.mem_of_getElem? (i := 36) (by decide +kernel))) rfl
theorem fX9_59 : FLr RX9 59 599 := ⟨⟨by decide, by decide, Or.inl (lw_g_in (t4_in (List.mem_of_getElem? (i := 37) (by decide +kernel))) rfl)⟩, Or.inr ⟨_, rfl⟩⟩
theorem mfX9_59 : FLm RX9 59 599 := lw_g_in (t4_in (List.mem_of_getElem? (i := 37) (by decide +kernel))) rfl
theorem fX9_62 : FLr RX9 62 600 := ⟨⟨by decide, by decide, Or.inl (lw_g_in (t4_in (List.mem_of_getElem? (i := 38) (by decide +kernel))) rfl)⟩, Or.inr ⟨_, rfl⟩⟩
theorem mfX9_62 : FLm RX9 62 600 := lw_g_in (t4_in (List.mem_of_getElem? (i := 38) (by decide +kernel))) rfl
theorem fX9_65 : FLr RX9 65 601 := ⟨⟨by decide, by decide, Or.inl (lw_g_in (t4_in (List.mem_of_getElem? (i := 39) (by decide +kernel))) rfl)⟩, Or.inr ⟨_, rfl⟩⟩
theorem mfX9_65 : FLm RX9 65 601 := lw_g_in (t4_in (List.mem_of_getElem? (i := 39) (by decide +kernel))) rfl
theorem fX9_68 : FLr RX9 68 602 := ⟨⟨by decide, by decide, Or.inl (lw_g_in (t4_in (List.mem_of_getElem? (i := 40) (by decide +kernel))) rfl)⟩, Or.inr ⟨_, rfl⟩⟩
theorem mfX9_68 : FLm RX9 68 602 := lw_g_in (t4_in (List.mem_of_getElem? (i := 40) (by decide +kernel))) rfl
theorem fX9_252 : FLi RX9 252 603 := ⟨⟨by decide, by decide, Or.inl (lw_g_in (t4_in (List.mem_of_getElem? (i := 41) (by decide +kernel))) rfl)⟩, Or.inl rfl⟩
theorem mfX9_252 : FLm RX9 252 603 := lw_g_in (t4_in (List.mem_of_getElem? (i := 41) (by decide +kernel))) rfl
theorem fX9_71 : FLi RX9 71 604 := ⟨⟨by decide, by decide, Or.inl (lw_g_in (t4_in (List.mem_of_getElem? (i := 42) (by decide +kernel))) rfl)⟩, Or.inl rfl⟩
theorem mfX9_71 : FLm RX9 71 604 := lw_g_in (t4_in (List.mem_of_getElem? (i := 42) (by decide +kernel))) rfl
theorem fX9_249 : FLi RX9 249 605 := ⟨⟨by decide, by decide, Or.inl (lw_g_in (t4_in (List.mem_of_getElem? (i := 43) (by decide +kernel))) rfl)⟩, Or.inl rfl⟩
theorem mfX9_249 : FLm RX9 249 605 := lw_g_in (t4_in (List.mem_of_getElem? (i := 43) (by decide +kernel))) rfl
theorem fX9_239 : FLj RX9 239 606 := ⟨⟨by decide, by decide, Or.inl (lw_g_in (t4_in (List.mem_of_getElem? (i := 44) (by decide +kernel))) rfl)⟩, rfl⟩
theorem mfX9_239 : FLm RX9 239 606 := lw_g_in (t4_in (List.mem_of_getElem? (i := 44) (by decide +kernel))) rfl
theorem fX9_242 : FLj RX9 242 607 := ⟨⟨by decide, by decide, Or.inl (lw_g_in (t4_in (List.mem_of_getElem? (i := 45) (by decide +kernel))) rfl)⟩, rfl⟩
theorem mfX9_242 : FLm RX9 242 607 := lw_g_in (t4_in (List.mem_of_getElem? (i := 45) (by decide +kernel))) rfl
theorem fX9_209 : FLi RX9 209 608 := ⟨⟨by decide, by decide, Or.inl (lw_g_in (t4_in (List.mem_of_getElem? (i := 46) (by decide +kernel))) rfl)⟩, Or.inr rfl⟩
theorem mfX9_209 : FLm RX9 209 608 := lw_g_in (t4_in (List.mem_of_getElem? (i := 46) (by decide +kernel))) rfl
theorem fX9_213 : FLj RX9 213 609 := ⟨⟨by decide, by decide, Or.inl (lw_g_in (t4_in (List.mem_of_getElem? (i := 47) (by decide +kernel))) rfl)⟩, rfl⟩
theorem mfX9_213 : FLm RX9 213 609 := lw_g_in (t4_in (List.mem_of_getElem? (i := 47) (by decide +kernel))) rfl
theorem fX9_217 : FLj RX9 217 610 := ⟨⟨by decide, by decide, Or.inl (lw_g_in (t4_in (List.mem_of_getElem? (i := 48) (by decide +kernel))) rfl)⟩, rfl⟩
theorem mfX9_217 : FLm RX9 217 610 := lw_g_in (t4_in (List.mem_of_getElem? (i := 48) (by decide +kernel))) rfl
theorem fX9_75 : FLr RX9 75 611 := ⟨⟨by decide, by decide, Or.inl (lw_g_in (t4_in (List.mem_of_getElem? (i := 49) (by decide +kernel))) rfl)⟩, Or.inr ⟨_, rfl⟩⟩
theorem mfX9_75 : FLm RX9 75 611 := lw_g_in (t4_in (List.mem_of_getElem? (i := 49) (by decide +kernel))) rfl
theorem fX9_188 : FLi RX9 188 612 := ⟨⟨by decide, by decide, Or.inl (lw_g_in (t4_in (List.mem_of_getElem? (i := 50) (by decide +kernel))) rfl)⟩, Or.inl rfl⟩
theorem mfX9_188 : FLm RX9 188 612 := lw_g_in (t4_in (List.mem_of_getElem? (i := 50) (by decide +kernel))) rfl
theorem fX9_78 : FLr RX9 78 613 := ⟨⟨by decide, by decide, Or.inl (lw_g_in (t4_in (List.mem_of_getElem? (i := 51) (by decide +kernel))) rfl)⟩, Or.inr ⟨_, rfl⟩⟩
theorem mfX9_78 : FLm RX9 78 613 := lw_g_in (t4_in (List.mem_of_getElem? (i := 51) (by decide +kernel))) rfl
