theorem dL_law_38 : decode cL_law 38 = .ok (.aload_n 0, 1) := by decide +kernel
theorem dL_law_39 : decode cL_law 39 = .ok (.iload 5, 2) := by decide +kernel
theorem dL_law_41 : decode cL_law 41 = .ok (.iaload, 1) := by decide +kernel
theorem dL_law_42 : decode cL_law 42 = .ok (.bipush 31, 2) := by decide +kernel
theorem dL_law_44 : decode cL_law 44 = .ok (.iand, 1) := by decide +kernel
theorem dL_law_45 : decode cL_law 45 = .ok (.tableswitch 2011 0 31 #[143, 199, 279, 337, 441, 509, 584, 640, 696, 752, 808, 864, 920, 976, 1039, 1095, 1151, 1235, 1331, 1427, 1518, 1574, 1587, 1643, 1657, 1670, 1726, 1796, 1854, 1867, 1933, 1998], 143) := by decide +kernel
theorem dL_law_0 : decode cL_law 0 = .ok (.new 8, 3) := by decide +kernel
theorem dL_law_3 : decode cL_law 3 = .ok (.dup, 1) := by decide +kernel
set_option maxRecDepth 20000 in
theorem ggL_law_X3_init : GoodIn wsL_law wsX3_init := goodIn_r _ [10, 11, 12, 13, 14, 15, 16, 17, 18, 19, 20, 21, 22, 23, 24, 25, 26, 27, 28, 29, 30, 31, 32, 33, 34, 35, 36, 37, 38, 39, 40, 41, 42, 43, 44, 45, 46, 1196, 1197, 1198, 1172, 1173, 1174, 1175, 1176, 1177, 1178, 1179, 1180, 1181, 1182, 1183, 1199, 1200] (by decide +kernel) (by decide +kernel)
set_option maxRecDepth 20000 in
theorem gL_law_X3_init : GoodIn wsL_law (wsX3_init) := ggL_law_X3_init
theorem dL_law_4 : decode cL_law 4 = .ok (.invokespecial 117, 3) := by decide +kernel
theorem dL_law_7 : decode cL_law 7 = .ok (.astore_n 1, 1) := by decide +kernel
theorem dL_law_8 : decode cL_law 8 = .ok (.new 118, 3) := by decide +kernel
theorem dL_law_11 : decode cL_law 11 = .ok (.dup, 1) := by decide +kernel
set_option maxRecDepth 20000 in
theorem ggL_law_X6_init : GoodIn wsL_law wsX6_init := goodIn_r _ [49, 50, 12, 13, 51, 52, 53, 15, 16, 54, 55, 56, 57, 58, 59, 27, 28, 29, 30, 31, 32, 33, 34, 35, 36, 37, 38, 39, 40, 1184, 1185, 1186, 1187, 1188, 1189, 1190, 1191, 1192, 1193, 1194, 1195, 1196, 1197, 1198] (by decide +kernel) (by decide +kernel)
set_option maxRecDepth 20000 in
theorem gL_law_X6_init : GoodIn wsL_law (wsX6_init) := ggL_law_X6_init
theorem dL_law_12 : decode cL_law 12 = .ok (.invokespecial 120, 3) := by decide +kernel
theorem dL_law_15 : decode cL_law 15 = .ok (.astore_n 2, 1) := by decide +kernel
theorem dL_law_16 : decode cL_law 16 = .ok (.iconst 1, 1) := by decide +kernel
theorem dL_law_17 : decode cL_law 17 = .ok (.newarray .long, 2) := by decide +kernel
theorem dL_law_19 : decode cL_law 19 = .ok (.astore_n 3, 1) := by decide +kernel
theorem dL_law_20 : decode cL_law 20 = .ok (.iconst 1, 1) := by decide +kernel
theorem dL_law_21 : decode cL_law 21 = .ok (.newarray .double, 2) := by decide +kernel
theorem dL_law_23 : decode cL_law 23 = .ok (.astore 4, 2) := by decide +kernel
theorem dL_law_25 : decode cL_law 25 = .ok (.iconst 0, 1) := by decide +kernel
theorem dL_law_26 : decode cL_law 26 = .ok (.istore 5, 2) := by decide +kernel
set_option maxHeartbeats 4000000 in
set_option maxRecDepth 100000 in
theorem tw_turn {p : Program} {l : Launch} {e : Env} {s : State} {m : MethodId} {below : List Frame} {meth : Method} {c : Code} {b : Nat} {xs : Nat → Int32} (C0 : lw_At p s m meth c b 6 xs) (hst : l.stackTraces = false) {A : Nat → Prop} (hAe : A = fun q : Nat => s.heap.size ≤ q) (em kw kb : Nat) (D : va_G) (hF : tw_F em kw kb A s) (q_1 : Nat) (q_2 : Nat) (q_3 : Nat) (q_4 : Nat) (q_5 : Nat) (cA_6 : ClassId) (q_7 : Nat) (q_8 : Nat) (q_9 : Nat) (q_10 : Nat) (q_11 : Nat) (q_12 : Nat) (cA_13 : ClassId) (cA_14 : ClassId) (q_15 : Nat) (q_16 : Nat) (cA_17 : ClassId) (q_18 : Nat) (cA_19 : ClassId) (H : Heap) (locs : List Loc) (hK : va_K D vwCl [(cA_6, .int), (cA_13, .array (.object "TowerliftryModel$Car")), (cA_14, .object "TowerliftryModel$Car"), (cA_17, .long), (cA_19, .double)] s) (hP : va_P D vwCl [(q_1, .inr (7, [.ref q_2, .ref q_3, .ref q_4, .int 9, .int 99, .int 0, .int 0, .int 0, .int ((-1)), .int 0, .int 0, .long 0])), (q_2, .inr (3, [.int 0, .ref em, .int 0])), (q_3, .inr (3, [.int 0, .ref em, .int 0])), (q_4, .inr (5, [.ref q_5, .int 0])), (q_5, .inl (cA_6, 256, .inl ((fun _ => 0)))), (q_7, .inr (10, [.int 0, .int 9, .int 0, .int 99, .ref q_8, .ref q_9, .ref q_10, .int 0, .int 0, .int ((-1)), .ref q_15, .long 0])), (q_8, .inr (3, [.int 0, .ref em, .int 0])), (q_9, .inr (3, [.int 0, .ref em, .int 0])), (q_10, .inl (cA_13, 2, .inr (.inr (.inr (.inr ((tw_two q_11 q_12))))))), (q_11, .inl (cA_14, 24, .inr (.inr (.inr (.inr ((fun _ => none))))))), (q_12, .inl (cA_14, 24, .inr (.inr (.inr (.inr ((fun _ => none))))))), (q_15, .inr (3, [.int 0, .ref em, .int 0])), (q_16, .inl (cA_17, 1, .inr (.inl ((fun _ => 0))))), (q_18, .inl (cA_19, 1, .inr (.inr (.inr (.inl ((fun _ => 0)))))))] H) (hD : va_D A [(q_1, .inr (7, [.ref q_2, .ref q_3, .ref q_4, .int 9, .int 99, .int 0, .int 0, .int 0, .int ((-1)), .int 0, .int 0, .long 0])), (q_2, .inr (3, [.int 0, .ref em, .int 0])), (q_3, .inr (3, [.int 0, .ref em, .int 0])), (q_4, .inr (5, [.ref q_5, .int 0])), (q_5, .inl (cA_6, 256, .inl ((fun _ => 0)))), (q_7, .inr (10, [.int 0, .int 9, .int 0, .int 99, .ref q_8, .ref q_9, .ref q_10, .int 0, .int 0, .int ((-1)), .ref q_15, .long 0])), (q_8, .inr (3, [.int 0, .ref em, .int 0])), (q_9, .inr (3, [.int 0, .ref em, .int 0])), (q_10, .inl (cA_13, 2, .inr (.inr (.inr (.inr ((tw_two q_11 q_12))))))), (q_11, .inl (cA_14, 24, .inr (.inr (.inr (.inr ((fun _ => none))))))), (q_12, .inl (cA_14, 24, .inr (.inr (.inr (.inr ((fun _ => none))))))), (q_15, .inr (3, [.int 0, .ref em, .int 0])), (q_16, .inl (cA_17, 1, .inr (.inl ((fun _ => 0))))), (q_18, .inl (cA_19, 1, .inr (.inr (.inr (.inl ((fun _ => 0)))))))]) (hS : va_S A s.heap H locs) (ls : Array Slot) (hl : lv_has ls 9 [(5, .int 0), (4, .ref q_18), (3, .ref q_16), (2, .ref q_7), (1, .ref q_1), (0, .ref b)]) : W p l e room_1 s m #[Value.ref b] below meth c H locs 14 349 (lw_Z below #[Value.ref b] s) (F0 m 28 ls []) := by
  obtain ⟨hx, hb, hr, hml, hown, hts0, hX, hbl, hlocks, hgv⟩ := id C0
  have hown : s.vm.findClass RL = some m.cls := hown
  have hts : ∀ w ∈ wsL_law, w.before #[Value.ref b] s = true := fun w h => hts0 w (wsL_law_in w h)
  have hA : ∀ q : Nat, s.heap.size ≤ q → A q := fun q h => by rw [hAe]; exact h
  have hbA : ¬ A b := by rw [hAe]; exact Nat.not_le.mpr hbl
  refine lv_iload hx hb dL_law_28 (lv_at hl 0 rfl) ?_
  refine lv_aload_n hx hb dL_law_30 rfl (lv_at hl 5 rfl) ?_
  refine va_slen hx hb hX hbl hbA hS dL_law_31 ?_
  refine lv_bipush (v := 6) hx hb dL_law_32 (by decide) ?_
  refine lv_isub hx hb dL_law_34 ?_
  refine lv_icmp_gt (tgt := 2062) hx hb dL_law_35 (by decide) (fun c9 => absurd c9 (by decide)) (fun _ => ?_)
  refine lv_aload_n hx hb dL_law_38 rfl (lv_at hl 5 rfl) ?_
  refine lv_iload hx hb dL_law_39 (lv_at hl 0 rfl) ?_
  refine va_sld hx hb hX hbl hbA hS (by unfold vp_in; decide) dL_law_41 ?_
  refine lv_bipush (v := 31) hx hb dL_law_42 (by decide) ?_
  refine lv_iand hx hb dL_law_44 ?_
  generalize hv : (xs (0 : Int32).toNatClampNeg &&& 31) = v
  have h32 : 0 ≤ v.toInt ∧ v.toInt < 32 := by rw [← hv]; exact tw_32 _
  rcases (show v.toInt = 0 ∨ v.toInt = 1 ∨ v.toInt = 2 ∨ v.toInt = 3 ∨ v.toInt = 4 ∨ v.toInt = 5 ∨ v.toInt = 6 ∨ v.toInt = 7 ∨ v.toInt = 8 ∨ v.toInt = 9 ∨ v.toInt = 10 ∨ v.toInt = 11 ∨ v.toInt = 12 ∨ v.toInt = 13 ∨ v.toInt = 14 ∨ v.toInt = 15 ∨ v.toInt = 16 ∨ v.toInt = 17 ∨ v.toInt = 18 ∨ v.toInt = 19 ∨ v.toInt = 20 ∨ v.toInt = 21 ∨ v.toInt = 22 ∨ v.toInt = 23 ∨ v.toInt = 24 ∨ v.toInt = 25 ∨ v.toInt = 26 ∨ v.toInt = 27 ∨ v.toInt = 28 ∨ v.toInt = 29 ∨ v.toInt = 30 ∨ v.toInt = 31 by omega) with h | h | h | h | h | h | h | h | h | h | h | h | h | h | h | h | h | h | h | h | h | h | h | h | h | h | h | h | h | h | h | h
  · refine lv_tableIn (off := 143) (tgt := 188) hx hb dL_law_45 (by omega) (by omega) (by rw [h]; rfl) (by decide) ?_
    exact tw_case_0 C0 hst hAe em kw kb D hF q_1 q_2 q_3 q_4 q_5 cA_6 q_7 q_8 q_9 q_10 q_11 q_12 cA_13 cA_14 q_15 q_16 cA_17 q_18 cA_19 H locs hK hP hD hS ls hl
  · refine lv_tableIn (off := 199) (tgt := 244) hx hb dL_law_45 (by omega) (by omega) (by rw [h]; rfl) (by decide) ?_
    exact tw_case_1 C0 hst hAe em kw kb D hF q_1 q_2 q_3 q_4 q_5 cA_6 q_7 q_8 q_9 q_10 q_11 q_12 cA_13 cA_14 q_15 q_16 cA_17 q_18 cA_19 H locs hK hP hD hS ls hl
  · refine lv_tableIn (off := 279) (tgt := 324) hx hb dL_law_45 (by omega) (by omega) (by rw [h]; rfl) (by decide) ?_
    exact tw_case_2 C0 hst hAe em kw kb D hF q_1 q_2 q_3 q_4 q_5 cA_6 q_7 q_8 q_9 q_10 q_11 q_12 cA_13 cA_14 q_15 q_16 cA_17 q_18 cA_19 H locs hK hP hD hS ls hl
  · refine lv_tableIn (off := 337) (tgt := 382) hx hb dL_law_45 (by omega) (by omega) (by rw [h]; rfl) (by decide) ?_
    exact tw_case_3 C0 hst hAe em kw kb D hF q_1 q_2 q_3 q_4 q_5 cA_6 q_7 q_8 q_9 q_10 q_11 q_12 cA_13 cA_14 q_15 q_16 cA_17 q_18 cA_19 H locs hK hP hD hS ls hl
  · refine lv_tableIn (off := 441) (tgt := 486) hx hb dL_law_45 (by omega) (by omega) (by rw [h]; rfl) (by decide) ?_
    exact tw_case_4 C0 hst hAe em kw kb D hF q_1 q_2 q_3 q_4 q_5 cA_6 q_7 q_8 q_9 q_10 q_11 q_12 cA_13 cA_14 q_15 q_16 cA_17 q_18 cA_19 H locs hK hP hD hS ls hl
  · refine lv_tableIn (off := 509) (tgt := 554) hx hb dL_law_45 (by omega) (by omega) (by rw [h]; rfl) (by decide) ?_
    exact tw_case_5 C0 hst hAe em kw kb D hF q_1 q_2 q_3 q_4 q_5 cA_6 q_7 q_8 q_9 q_10 q_11 q_12 cA_13 cA_14 q_15 q_16 cA_17 q_18 cA_19 H locs hK hP hD hS ls hl
  · refine lv_tableIn (off := 584) (tgt := 629) hx hb dL_law_45 (by omega) (by omega) (by rw [h]; rfl) (by decide) ?_
    exact tw_case_6 C0 hst hAe em kw kb D hF q_1 q_2 q_3 q_4 q_5 cA_6 q_7 q_8 q_9 q_10 q_11 q_12 cA_13 cA_14 q_15 q_16 cA_17 q_18 cA_19 H locs hK hP hD hS ls hl
  · refine lv_tableIn (off := 640) (tgt := 685) hx hb dL_law_45 (by omega) (by omega) (by rw [h]; rfl) (by decide) ?_
    exact tw_case_7 C0 hst hAe em kw kb D hF q_1 q_2 q_3 q_4 q_5 cA_6 q_7 q_8 q_9 q_10 q_11 q_12 cA_13 cA_14 q_15 q_16 cA_17 q_18 cA_19 H locs hK hP hD hS ls hl
  · refine lv_tableIn (off := 696) (tgt := 741) hx hb dL_law_45 (by omega) (by omega) (by rw [h]; rfl) (by decide) ?_
    exact tw_case_8 C0 hst hAe em kw kb D hF q_1 q_2 q_3 q_4 q_5 cA_6 q_7 q_8 q_9 q_10 q_11 q_12 cA_13 cA_14 q_15 q_16 cA_17 q_18 cA_19 H locs hK hP hD hS ls hl
  · refine lv_tableIn (off := 752) (tgt := 797) hx hb dL_law_45 (by omega) (by omega) (by rw [h]; rfl) (by decide) ?_
    exact tw_case_9 C0 hst hAe em kw kb D hF q_1 q_2 q_3 q_4 q_5 cA_6 q_7 q_8 q_9 q_10 q_11 q_12 cA_13 cA_14 q_15 q_16 cA_17 q_18 cA_19 H locs hK hP hD hS ls hl
  · refine lv_tableIn (off := 808) (tgt := 853) hx hb dL_law_45 (by omega) (by omega) (by rw [h]; rfl) (by decide) ?_
    exact tw_case_10 C0 hst hAe em kw kb D hF q_1 q_2 q_3 q_4 q_5 cA_6 q_7 q_8 q_9 q_10 q_11 q_12 cA_13 cA_14 q_15 q_16 cA_17 q_18 cA_19 H locs hK hP hD hS ls hl
  · refine lv_tableIn (off := 864) (tgt := 909) hx hb dL_law_45 (by omega) (by omega) (by rw [h]; rfl) (by decide) ?_
    exact tw_case_11 C0 hst hAe em kw kb D hF q_1 q_2 q_3 q_4 q_5 cA_6 q_7 q_8 q_9 q_10 q_11 q_12 cA_13 cA_14 q_15 q_16 cA_17 q_18 cA_19 H locs hK hP hD hS ls hl
  · refine lv_tableIn (off := 920) (tgt := 965) hx hb dL_law_45 (by omega) (by omega) (by rw [h]; rfl) (by decide) ?_
    exact tw_case_12 C0 hst hAe em kw kb D hF q_1 q_2 q_3 q_4 q_5 cA_6 q_7 q_8 q_9 q_10 q_11 q_12 cA_13 cA_14 q_15 q_16 cA_17 q_18 cA_19 H locs hK hP hD hS ls hl
  · refine lv_tableIn (off := 976) (tgt := 1021) hx hb dL_law_45 (by omega) (by omega) (by rw [h]; rfl) (by decide) ?_
    exact tw_case_13 C0 hst hAe em kw kb D hF q_1 q_2 q_3 q_4 q_5 cA_6 q_7 q_8 q_9 q_10 q_11 q_12 cA_13 cA_14 q_15 q_16 cA_17 q_18 cA_19 H locs hK hP hD hS ls hl
  · refine lv_tableIn (off := 1039) (tgt := 1084) hx hb dL_law_45 (by omega) (by omega) (by rw [h]; rfl) (by decide) ?_
    exact tw_case_14 C0 hst hAe em kw kb D hF q_1 q_2 q_3 q_4 q_5 cA_6 q_7 q_8 q_9 q_10 q_11 q_12 cA_13 cA_14 q_15 q_16 cA_17 q_18 cA_19 H locs hK hP hD hS ls hl
  · refine lv_tableIn (off := 1095) (tgt := 1140) hx hb dL_law_45 (by omega) (by omega) (by rw [h]; rfl) (by decide) ?_
    exact tw_case_15 C0 hst hAe em kw kb D hF q_1 q_2 q_3 q_4 q_5 cA_6 q_7 q_8 q_9 q_10 q_11 q_12 cA_13 cA_14 q_15 q_16 cA_17 q_18 cA_19 H locs hK hP hD hS ls hl
  · refine lv_tableIn (off := 1151) (tgt := 1196) hx hb dL_law_45 (by omega) (by omega) (by rw [h]; rfl) (by decide) ?_
    exact tw_case_16 C0 hst hAe em kw kb D hF q_1 q_2 q_3 q_4 q_5 cA_6 q_7 q_8 q_9 q_10 q_11 q_12 cA_13 cA_14 q_15 q_16 cA_17 q_18 cA_19 H locs hK hP hD hS ls hl
  · refine lv_tableIn (off := 1235) (tgt := 1280) hx hb dL_law_45 (by omega) (by omega) (by rw [h]; rfl) (by decide) ?_
    exact tw_case_17 C0 hst hAe em kw kb D hF q_1 q_2 q_3 q_4 q_5 cA_6 q_7 q_8 q_9 q_10 q_11 q_12 cA_13 cA_14 q_15 q_16 cA_17 q_18 cA_19 H locs hK hP hD hS ls hl
  · refine lv_tableIn (off := 1331) (tgt := 1376) hx hb dL_law_45 (by omega) (by omega) (by rw [h]; rfl) (by decide) ?_
    exact tw_case_18 C0 hst hAe em kw kb D hF q_1 q_2 q_3 q_4 q_5 cA_6 q_7 q_8 q_9 q_10 q_11 q_12 cA_13 cA_14 q_15 q_16 cA_17 q_18 cA_19 H locs hK hP hD hS ls hl
  · refine lv_tableIn (off := 1427) (tgt := 1472) hx hb dL_law_45 (by omega) (by omega) (by rw [h]; rfl) (by decide) ?_
    exact tw_case_19 C0 hst hAe em kw kb D hF q_1 q_2 q_3 q_4 q_5 cA_6 q_7 q_8 q_9 q_10 q_11 q_12 cA_13 cA_14 q_15 q_16 cA_17 q_18 cA_19 H locs hK hP hD hS ls hl
  · refine lv_tableIn (off := 1518) (tgt := 1563) hx hb dL_law_45 (by omega) (by omega) (by rw [h]; rfl) (by decide) ?_
    exact tw_case_20 C0 hst hAe em kw kb D hF q_1 q_2 q_3 q_4 q_5 cA_6 q_7 q_8 q_9 q_10 q_11 q_12 cA_13 cA_14 q_15 q_16 cA_17 q_18 cA_19 H locs hK hP hD hS ls hl
  · refine lv_tableIn (off := 1574) (tgt := 1619) hx hb dL_law_45 (by omega) (by omega) (by rw [h]; rfl) (by decide) ?_
    exact tw_case_21 C0 hst hAe em kw kb D hF q_1 q_2 q_3 q_4 q_5 cA_6 q_7 q_8 q_9 q_10 q_11 q_12 cA_13 cA_14 q_15 q_16 cA_17 q_18 cA_19 H locs hK hP hD hS ls hl
  · refine lv_tableIn (off := 1587) (tgt := 1632) hx hb dL_law_45 (by omega) (by omega) (by rw [h]; rfl) (by decide) ?_
    exact tw_case_22 C0 hst hAe em kw kb D hF q_1 q_2 q_3 q_4 q_5 cA_6 q_7 q_8 q_9 q_10 q_11 q_12 cA_13 cA_14 q_15 q_16 cA_17 q_18 cA_19 H locs hK hP hD hS ls hl
  · refine lv_tableIn (off := 1643) (tgt := 1688) hx hb dL_law_45 (by omega) (by omega) (by rw [h]; rfl) (by decide) ?_
    exact tw_case_23 C0 hst hAe em kw kb D hF q_1 q_2 q_3 q_4 q_5 cA_6 q_7 q_8 q_9 q_10 q_11 q_12 cA_13 cA_14 q_15 q_16 cA_17 q_18 cA_19 H locs hK hP hD hS ls hl
  · refine lv_tableIn (off := 1657) (tgt := 1702) hx hb dL_law_45 (by omega) (by omega) (by rw [h]; rfl) (by decide) ?_
    exact tw_case_24 C0 hst hAe em kw kb D hF q_1 q_2 q_3 q_4 q_5 cA_6 q_7 q_8 q_9 q_10 q_11 q_12 cA_13 cA_14 q_15 q_16 cA_17 q_18 cA_19 H locs hK hP hD hS ls hl
  · refine lv_tableIn (off := 1670) (tgt := 1715) hx hb dL_law_45 (by omega) (by omega) (by rw [h]; rfl) (by decide) ?_
    exact tw_case_25 C0 hst hAe em kw kb D hF q_1 q_2 q_3 q_4 q_5 cA_6 q_7 q_8 q_9 q_10 q_11 q_12 cA_13 cA_14 q_15 q_16 cA_17 q_18 cA_19 H locs hK hP hD hS ls hl
  · refine lv_tableIn (off := 1726) (tgt := 1771) hx hb dL_law_45 (by omega) (by omega) (by rw [h]; rfl) (by decide) ?_
    exact tw_case_26 C0 hst hAe em kw kb D hF q_1 q_2 q_3 q_4 q_5 cA_6 q_7 q_8 q_9 q_10 q_11 q_12 cA_13 cA_14 q_15 q_16 cA_17 q_18 cA_19 H locs hK hP hD hS ls hl
  · refine lv_tableIn (off := 1796) (tgt := 1841) hx hb dL_law_45 (by omega) (by omega) (by rw [h]; rfl) (by decide) ?_
    exact tw_case_27 C0 hst hAe em kw kb D hF q_1 q_2 q_3 q_4 q_5 cA_6 q_7 q_8 q_9 q_10 q_11 q_12 cA_13 cA_14 q_15 q_16 cA_17 q_18 cA_19 H locs hK hP hD hS ls hl
  · refine lv_tableIn (off := 1854) (tgt := 1899) hx hb dL_law_45 (by omega) (by omega) (by rw [h]; rfl) (by decide) ?_
    exact tw_case_28 C0 hst hAe em kw kb D hF q_1 q_2 q_3 q_4 q_5 cA_6 q_7 q_8 q_9 q_10 q_11 q_12 cA_13 cA_14 q_15 q_16 cA_17 q_18 cA_19 H locs hK hP hD hS ls hl
  · refine lv_tableIn (off := 1867) (tgt := 1912) hx hb dL_law_45 (by omega) (by omega) (by rw [h]; rfl) (by decide) ?_
    exact tw_case_29 C0 hst hAe em kw kb D hF q_1 q_2 q_3 q_4 q_5 cA_6 q_7 q_8 q_9 q_10 q_11 q_12 cA_13 cA_14 q_15 q_16 cA_17 q_18 cA_19 H locs hK hP hD hS ls hl
  · refine lv_tableIn (off := 1933) (tgt := 1978) hx hb dL_law_45 (by omega) (by omega) (by rw [h]; rfl) (by decide) ?_
    exact tw_case_30 C0 hst hAe em kw kb D hF q_1 q_2 q_3 q_4 q_5 cA_6 q_7 q_8 q_9 q_10 q_11 q_12 cA_13 cA_14 q_15 q_16 cA_17 q_18 cA_19 H locs hK hP hD hS ls hl
  · refine lv_tableIn (off := 1998) (tgt := 2043) hx hb dL_law_45 (by omega) (by omega) (by rw [h]; rfl) (by decide) ?_
    exact tw_case_31 C0 hst hAe em kw kb D hF q_1 q_2 q_3 q_4 q_5 cA_6 q_7 q_8 q_9 q_10 q_11 q_12 cA_13 cA_14 q_15 q_16 cA_17 q_18 cA_19 H locs hK hP hD hS ls hl
set_option maxHeartbeats 4000000 in
set_option maxRecDepth 100000 in
/-- THE LAW, from its entry -/
theorem whole_start {p : Program} {e : Env} {s : State} {m : MethodId} {below : List Frame} {meth : Method} {c : Code} (l : Launch) (hflags : l.flags = flags0) {b L : Nat} {xs : Nat → Int32} (hL : L ≤ 6) (C0 : lw_At p s m meth c b L xs) : W p l e room_1 s m #[Value.ref b] below meth c s.heap [] 0 0 (lw_Z below #[Value.ref b] s) (entryFrame m ([Value.ref b] : List Value).toArray 9) := by
  have hst : l.stackTraces = false := by
    show (!l.flags.contains noTraceFlag) = false
    rw [hflags]
    decide
  obtain ⟨A, hAe⟩ : ∃ A : Nat → Prop, A = fun q : Nat => s.heap.size ≤ q := ⟨_, rfl⟩
  obtain ⟨em, kw, kb, D, hK, hF⟩ := tw_start C0 hAe
  obtain ⟨hx, hb, hr, hml, hown, hts0, hX, hbl, hlocks, hgv⟩ := id C0
  have hown : s.vm.findClass RL = some m.cls := hown
  have hts : ∀ w ∈ wsL_law, w.before #[Value.ref b] s = true := fun w h => hts0 w (wsL_law_in w h)
  have hA : ∀ q : Nat, s.heap.size ≤ q → A q := fun q h => by rw [hAe]; exact h
  have hbA : ¬ A b := by rw [hAe]; exact Nat.not_le.mpr hbl
  have hiRX3 : ∀ w ∈ u_ws RX3 TX3 12, w ∈ wsL_law := by decide +kernel
  have hiRX6 : ∀ w ∈ u_ws RX6 TX6 12, w ∈ wsL_law := by decide +kernel
  have hS : va_S A s.heap s.heap [] := va_S.rf
  have hP : va_P D vwCl [] s.heap := fun k q h => by simp at h
  have hD : va_D A [] := ⟨fun i j p q h => by simp at h, fun k q h => by simp at h⟩
  have hl := lv_entry ([.ref b]) (n := 9) (Nat.le_of_ble_eq_true rfl)
  rw [lg_entry_eq]
  generalize (lg_sl ([.ref b]) ++ List.replicate (9 - (lg_sl ([.ref b])).length) Slot.unset).toArray = ls at hl ⊢
  have hl : lv_has ls 9 [(0, .ref b)] := hl
  refine va_new (ci := 7) (fs := [.null, .null, .null, .int 0, .int 0, .int 0, .int 0, .int 0, .int 0, .int 0, .int 0, .long 0]) (C := RX3) (T := TX3) (N := 12) hx hb hts hiRX3 tyX3 tyX3_ok hown (hts (.classLink RL 8 RX3) (by decide +kernel)) (hts (.instantiable RX3 12) (by decide +kernel)) (hts (.initialized RX3) (by decide +kernel)) hK hP hD hS hA rfl (by decide +kernel) (Nat.le_of_ble_eq_true rfl) (Nat.le_of_ble_eq_true rfl) dL_law_0 (fun q_1 H hP hD hS => ?_)
  have hP : va_P D vwCl [(q_1, .inr (7, [.null, .null, .null, .int 0, .int 0, .int 0, .int 0, .int 0, .int 0, .int 0, .int 0, .long 0]))] _ := hP
  have hD : va_D A [(q_1, .inr (7, [.null, .null, .null, .int 0, .int 0, .int 0, .int 0, .int 0, .int 0, .int 0, .int 0, .long 0]))] := hD
  refine W.widen (k := 1) (n := 12) (Nat.le_refl _) (Nat.le_refl _) ?_
  refine lv_dup hx hb dL_law_3 rfl ?_
  have hPc := hP.sub (ws' := [(q_1, .inr (7, [.null, .null, .null, .int 0, .int 0, .int 0, .int 0, .int 0, .int 0, .int 0, .int 0, .long 0]))]) [0] rfl
  have hDc := hD.sub (ws' := [(q_1, .inr (7, [.null, .null, .null, .int 0, .int 0, .int 0, .int 0, .int 0, .int 0, .int 0, .int 0, .long 0]))]) [0] (by decide) rfl
  have hKc := hK.sub (tys' := []) [] rfl
  have hFc := va_free (wc := [(q_1, .inr (7, [.null, .null, .null, .int 0, .int 0, .int 0, .int 0, .int 0, .int 0, .int 0, .int 0, .long 0]))]) hD hS hA [0] rfl
  refine va_callv (va_runI (As := []) (rest := [.ref q_1]) ⟨hx, hb, hml, hown, hts⟩ (c_X3_init l hst em kw kb D q_1 _) (cwI 0 hts gL_law_X3_init rfl rfl rfl (hts (.initialized RX3) (by decide +kernel)) (hts (.methodLink RL 117 yX3_init) (by decide +kernel)) (hts (.instanceMethod yX3_init) (by decide +kernel)) rfl (by decide +kernel) ⟨(Nat.le_of_ble_eq_true rfl), (Nat.le_of_ble_eq_true rfl)⟩) (tw_preS hF hS hFc hPc hKc hDc) rfl rfl hl.1 rfl (lv_room (Nat.le_of_ble_eq_true rfl)) dL_law_4 ⟨(Nat.le_of_ble_eq_true rfl), (Nat.le_of_ble_eq_true rfl)⟩) hS (fun q _ h => hFc q h) hFc (fun u t H locs ht hvm hw hB hz1 hk1 hS => ?_)
  obtain ⟨q_2, q_3, q_4, q_5, cA_6, rfl⟩ := hw
  obtain ⟨hP, hD, hK⟩ := tw_join (wr := []) hP hD hK [0] [] rfl rfl (by decide) (by decide) hk1 hFc ht hvm hB
  have hP : va_P D vwCl [(q_1, .inr (7, [.ref q_2, .ref q_3, .ref q_4, .int 9, .int 99, .int 0, .int 0, .int 0, .int ((-1)), .int 0, .int 0, .long 0])), (q_2, .inr (3, [.int 0, .ref em, .int 0])), (q_3, .inr (3, [.int 0, .ref em, .int 0])), (q_4, .inr (5, [.ref q_5, .int 0])), (q_5, .inl (cA_6, 256, .inl ((fun _ => 0))))] _ := hP
  have hD : va_D A [(q_1, .inr (7, [.ref q_2, .ref q_3, .ref q_4, .int 9, .int 99, .int 0, .int 0, .int 0, .int ((-1)), .int 0, .int 0, .long 0])), (q_2, .inr (3, [.int 0, .ref em, .int 0])), (q_3, .inr (3, [.int 0, .ref em, .int 0])), (q_4, .inr (5, [.ref q_5, .int 0])), (q_5, .inl (cA_6, 256, .inl ((fun _ => 0))))] := hD
  have hK : va_K D vwCl [(cA_6, .int)] s := hK
  refine W.widen (k := 5) (n := 276) (Nat.le_refl _) (Nat.le_refl _) ?_
  refine W.eq (g2 := F0 m 7 ls [.ref q_1]) rfl ?_
  refine lv_astore_n (lv' := [(1, .ref q_1), (0, .ref b)]) hx hb dL_law_7 rfl hl (by decide) rfl (fun ls hl => ?_)
  refine va_new (ci := 10) (fs := [.int 0, .int 0, .int 0, .int 0, .null, .null, .null, .int 0, .int 0, .int 0, .null, .long 0]) (C := RX6) (T := TX6) (N := 12) hx hb hts hiRX6 tyX6 tyX6_ok hown (hts (.classLink RL 118 RX6) (by decide +kernel)) (hts (.instantiable RX6 12) (by decide +kernel)) (hts (.initialized RX6) (by decide +kernel)) hK hP hD hS hA rfl (by decide +kernel) (Nat.le_of_ble_eq_true rfl) (Nat.le_of_ble_eq_true rfl) dL_law_8 (fun q_7 H hP hD hS => ?_)
  have hP : va_P D vwCl [(q_1, .inr (7, [.ref q_2, .ref q_3, .ref q_4, .int 9, .int 99, .int 0, .int 0, .int 0, .int ((-1)), .int 0, .int 0, .long 0])), (q_2, .inr (3, [.int 0, .ref em, .int 0])), (q_3, .inr (3, [.int 0, .ref em, .int 0])), (q_4, .inr (5, [.ref q_5, .int 0])), (q_5, .inl (cA_6, 256, .inl ((fun _ => 0)))), (q_7, .inr (10, [.int 0, .int 0, .int 0, .int 0, .null, .null, .null, .int 0, .int 0, .int 0, .null, .long 0]))] _ := hP
  have hD : va_D A [(q_1, .inr (7, [.ref q_2, .ref q_3, .ref q_4, .int 9, .int 99, .int 0, .int 0, .int 0, .int ((-1)), .int 0, .int 0, .long 0])), (q_2, .inr (3, [.int 0, .ref em, .int 0])), (q_3, .inr (3, [.int 0, .ref em, .int 0])), (q_4, .inr (5, [.ref q_5, .int 0])), (q_5, .inl (cA_6, 256, .inl ((fun _ => 0)))), (q_7, .inr (10, [.int 0, .int 0, .int 0, .int 0, .null, .null, .null, .int 0, .int 0, .int 0, .null, .long 0]))] := hD
  refine W.widen (k := 6) (n := 288) (Nat.le_refl _) (Nat.le_refl _) ?_
  refine lv_dup hx hb dL_law_11 rfl ?_
  have hPc := hP.sub (ws' := [(q_7, .inr (10, [.int 0, .int 0, .int 0, .int 0, .null, .null, .null, .int 0, .int 0, .int 0, .null, .long 0]))]) [5] rfl
  have hDc := hD.sub (ws' := [(q_7, .inr (10, [.int 0, .int 0, .int 0, .int 0, .null, .null, .null, .int 0, .int 0, .int 0, .null, .long 0]))]) [5] (by decide) rfl
  have hKc := hK.sub (tys' := []) [] rfl
  have hFc := va_free (wc := [(q_7, .inr (10, [.int 0, .int 0, .int 0, .int 0, .null, .null, .null, .int 0, .int 0, .int 0, .null, .long 0]))]) hD hS hA [5] rfl
  refine va_callv (va_runI (As := []) (rest := [.ref q_7]) ⟨hx, hb, hml, hown, hts⟩ (c_X6_init l hst em kw kb D q_7 _) (cwI 0 hts gL_law_X6_init rfl rfl rfl (hts (.initialized RX6) (by decide +kernel)) (hts (.methodLink RL 120 yX6_init) (by decide +kernel)) (hts (.instanceMethod yX6_init) (by decide +kernel)) rfl (by decide +kernel) ⟨(Nat.le_of_ble_eq_true rfl), (Nat.le_of_ble_eq_true rfl)⟩) (tw_preS hF hS hFc hPc hKc hDc) rfl rfl hl.1 rfl (lv_room (Nat.le_of_ble_eq_true rfl)) dL_law_12 ⟨(Nat.le_of_ble_eq_true rfl), (Nat.le_of_ble_eq_true rfl)⟩) hS (fun q _ h => hFc q h) hFc (fun u t H locs ht hvm hw hB hz1 hk1 hS => ?_)
  obtain ⟨q_8, q_9, q_10, q_11, q_12, cA_13, cA_14, q_15, rfl⟩ := hw
  obtain ⟨hP, hD, hK⟩ := tw_join (wr := [(q_1, .inr (7, [.ref q_2, .ref q_3, .ref q_4, .int 9, .int 99, .int 0, .int 0, .int 0, .int ((-1)), .int 0, .int 0, .long 0])), (q_2, .inr (3, [.int 0, .ref em, .int 0])), (q_3, .inr (3, [.int 0, .ref em, .int 0])), (q_4, .inr (5, [.ref q_5, .int 0])), (q_5, .inl (cA_6, 256, .inl ((fun _ => 0))))]) hP hD hK [5] [0, 1, 2, 3, 4] rfl rfl (by decide) (by decide) hk1 hFc ht hvm hB
  have hP : va_P D vwCl [(q_1, .inr (7, [.ref q_2, .ref q_3, .ref q_4, .int 9, .int 99, .int 0, .int 0, .int 0, .int ((-1)), .int 0, .int 0, .long 0])), (q_2, .inr (3, [.int 0, .ref em, .int 0])), (q_3, .inr (3, [.int 0, .ref em, .int 0])), (q_4, .inr (5, [.ref q_5, .int 0])), (q_5, .inl (cA_6, 256, .inl ((fun _ => 0)))), (q_7, .inr (10, [.int 0, .int 9, .int 0, .int 99, .ref q_8, .ref q_9, .ref q_10, .int 0, .int 0, .int ((-1)), .ref q_15, .long 0])), (q_8, .inr (3, [.int 0, .ref em, .int 0])), (q_9, .inr (3, [.int 0, .ref em, .int 0])), (q_10, .inl (cA_13, 2, .inr (.inr (.inr (.inr ((tw_two q_11 q_12))))))), (q_11, .inl (cA_14, 24, .inr (.inr (.inr (.inr ((fun _ => none))))))), (q_12, .inl (cA_14, 24, .inr (.inr (.inr (.inr ((fun _ => none))))))), (q_15, .inr (3, [.int 0, .ref em, .int 0]))] _ := hP
  have hD : va_D A [(q_1, .inr (7, [.ref q_2, .ref q_3, .ref q_4, .int 9, .int 99, .int 0, .int 0, .int 0, .int ((-1)), .int 0, .int 0, .long 0])), (q_2, .inr (3, [.int 0, .ref em, .int 0])), (q_3, .inr (3, [.int 0, .ref em, .int 0])), (q_4, .inr (5, [.ref q_5, .int 0])), (q_5, .inl (cA_6, 256, .inl ((fun _ => 0)))), (q_7, .inr (10, [.int 0, .int 9, .int 0, .int 99, .ref q_8, .ref q_9, .ref q_10, .int 0, .int 0, .int ((-1)), .ref q_15, .long 0])), (q_8, .inr (3, [.int 0, .ref em, .int 0])), (q_9, .inr (3, [.int 0, .ref em, .int 0])), (q_10, .inl (cA_13, 2, .inr (.inr (.inr (.inr ((tw_two q_11 q_12))))))), (q_11, .inl (cA_14, 24, .inr (.inr (.inr (.inr ((fun _ => none))))))), (q_12, .inl (cA_14, 24, .inr (.inr (.inr (.inr ((fun _ => none))))))), (q_15, .inr (3, [.int 0, .ref em, .int 0]))] := hD
  have hK : va_K D vwCl [(cA_6, .int), (cA_13, .array (.object "TowerliftryModel$Car")), (cA_14, .object "TowerliftryModel$Car")] s := hK
  refine W.widen (k := 12) (n := 347) (Nat.le_refl _) (Nat.le_refl _) ?_
  refine W.eq (g2 := F0 m 15 ls [.ref q_7]) rfl ?_
  refine lv_astore_n (lv' := [(2, .ref q_7), (1, .ref q_1), (0, .ref b)]) hx hb dL_law_15 rfl hl (by decide) rfl (fun ls hl => ?_)
  refine lv_iconst (v := 1) hx hb dL_law_16 (by decide) ?_
  refine va_newa (atype := .long) (ty := .long) (N' := 1) (a0 := (1, .inr (.inl (fun _ => 0)))) hx hb (hts (.arrayClass .long) (by decide +kernel)) rfl hK hP hD hS hA (fun _ => rfl) (by decide) (by decide) (Nat.le_of_ble_eq_true rfl) (Nat.le_of_ble_eq_true rfl) (Nat.le_of_ble_eq_true rfl) dL_law_17 (fun q_16 cA_17 H hK hP hD hS => ?_)
  have hP : va_P D vwCl [(q_1, .inr (7, [.ref q_2, .ref q_3, .ref q_4, .int 9, .int 99, .int 0, .int 0, .int 0, .int ((-1)), .int 0, .int 0, .long 0])), (q_2, .inr (3, [.int 0, .ref em, .int 0])), (q_3, .inr (3, [.int 0, .ref em, .int 0])), (q_4, .inr (5, [.ref q_5, .int 0])), (q_5, .inl (cA_6, 256, .inl ((fun _ => 0)))), (q_7, .inr (10, [.int 0, .int 9, .int 0, .int 99, .ref q_8, .ref q_9, .ref q_10, .int 0, .int 0, .int ((-1)), .ref q_15, .long 0])), (q_8, .inr (3, [.int 0, .ref em, .int 0])), (q_9, .inr (3, [.int 0, .ref em, .int 0])), (q_10, .inl (cA_13, 2, .inr (.inr (.inr (.inr ((tw_two q_11 q_12))))))), (q_11, .inl (cA_14, 24, .inr (.inr (.inr (.inr ((fun _ => none))))))), (q_12, .inl (cA_14, 24, .inr (.inr (.inr (.inr ((fun _ => none))))))), (q_15, .inr (3, [.int 0, .ref em, .int 0])), (q_16, .inl (cA_17, 1, .inr (.inl ((fun _ => 0)))))] _ := hP
  have hD : va_D A [(q_1, .inr (7, [.ref q_2, .ref q_3, .ref q_4, .int 9, .int 99, .int 0, .int 0, .int 0, .int ((-1)), .int 0, .int 0, .long 0])), (q_2, .inr (3, [.int 0, .ref em, .int 0])), (q_3, .inr (3, [.int 0, .ref em, .int 0])), (q_4, .inr (5, [.ref q_5, .int 0])), (q_5, .inl (cA_6, 256, .inl ((fun _ => 0)))), (q_7, .inr (10, [.int 0, .int 9, .int 0, .int 99, .ref q_8, .ref q_9, .ref q_10, .int 0, .int 0, .int ((-1)), .ref q_15, .long 0])), (q_8, .inr (3, [.int 0, .ref em, .int 0])), (q_9, .inr (3, [.int 0, .ref em, .int 0])), (q_10, .inl (cA_13, 2, .inr (.inr (.inr (.inr ((tw_two q_11 q_12))))))), (q_11, .inl (cA_14, 24, .inr (.inr (.inr (.inr ((fun _ => none))))))), (q_12, .inl (cA_14, 24, .inr (.inr (.inr (.inr ((fun _ => none))))))), (q_15, .inr (3, [.int 0, .ref em, .int 0])), (q_16, .inl (cA_17, 1, .inr (.inl ((fun _ => 0)))))] := hD
  have hK : va_K D vwCl [(cA_6, .int), (cA_13, .array (.object "TowerliftryModel$Car")), (cA_14, .object "TowerliftryModel$Car"), (cA_17, .long)] _ := hK
  refine W.widen (k := 13) (n := 348) (Nat.le_refl _) (Nat.le_refl _) ?_
  refine lv_astore_n (lv' := [(3, .ref q_16), (2, .ref q_7), (1, .ref q_1), (0, .ref b)]) hx hb dL_law_19 rfl hl (by decide) rfl (fun ls hl => ?_)
  refine lv_iconst (v := 1) hx hb dL_law_20 (by decide) ?_
  refine va_newa (atype := .double) (ty := .double) (N' := 1) (a0 := (1, .inr (.inr (.inr (.inl (fun _ => 0)))))) hx hb (hts (.arrayClass .double) (by decide +kernel)) rfl hK hP hD hS hA (fun _ => rfl) (by decide) (by decide) (Nat.le_of_ble_eq_true rfl) (Nat.le_of_ble_eq_true rfl) (Nat.le_of_ble_eq_true rfl) dL_law_21 (fun q_18 cA_19 H hK hP hD hS => ?_)
  have hP : va_P D vwCl [(q_1, .inr (7, [.ref q_2, .ref q_3, .ref q_4, .int 9, .int 99, .int 0, .int 0, .int 0, .int ((-1)), .int 0, .int 0, .long 0])), (q_2, .inr (3, [.int 0, .ref em, .int 0])), (q_3, .inr (3, [.int 0, .ref em, .int 0])), (q_4, .inr (5, [.ref q_5, .int 0])), (q_5, .inl (cA_6, 256, .inl ((fun _ => 0)))), (q_7, .inr (10, [.int 0, .int 9, .int 0, .int 99, .ref q_8, .ref q_9, .ref q_10, .int 0, .int 0, .int ((-1)), .ref q_15, .long 0])), (q_8, .inr (3, [.int 0, .ref em, .int 0])), (q_9, .inr (3, [.int 0, .ref em, .int 0])), (q_10, .inl (cA_13, 2, .inr (.inr (.inr (.inr ((tw_two q_11 q_12))))))), (q_11, .inl (cA_14, 24, .inr (.inr (.inr (.inr ((fun _ => none))))))), (q_12, .inl (cA_14, 24, .inr (.inr (.inr (.inr ((fun _ => none))))))), (q_15, .inr (3, [.int 0, .ref em, .int 0])), (q_16, .inl (cA_17, 1, .inr (.inl ((fun _ => 0))))), (q_18, .inl (cA_19, 1, .inr (.inr (.inr (.inl ((fun _ => 0)))))))] _ := hP
  have hD : va_D A [(q_1, .inr (7, [.ref q_2, .ref q_3, .ref q_4, .int 9, .int 99, .int 0, .int 0, .int 0, .int ((-1)), .int 0, .int 0, .long 0])), (q_2, .inr (3, [.int 0, .ref em, .int 0])), (q_3, .inr (3, [.int 0, .ref em, .int 0])), (q_4, .inr (5, [.ref q_5, .int 0])), (q_5, .inl (cA_6, 256, .inl ((fun _ => 0)))), (q_7, .inr (10, [.int 0, .int 9, .int 0, .int 99, .ref q_8, .ref q_9, .ref q_10, .int 0, .int 0, .int ((-1)), .ref q_15, .long 0])), (q_8, .inr (3, [.int 0, .ref em, .int 0])), (q_9, .inr (3, [.int 0, .ref em, .int 0])), (q_10, .inl (cA_13, 2, .inr (.inr (.inr (.inr ((tw_two q_11 q_12))))))), (q_11, .inl (cA_14, 24, .inr (.inr (.inr (.inr ((fun _ => none))))))), (q_12, .inl (cA_14, 24, .inr (.inr (.inr (.inr ((fun _ => none))))))), (q_15, .inr (3, [.int 0, .ref em, .int 0])), (q_16, .inl (cA_17, 1, .inr (.inl ((fun _ => 0))))), (q_18, .inl (cA_19, 1, .inr (.inr (.inr (.inl ((fun _ => 0)))))))] := hD
  have hK : va_K D vwCl [(cA_6, .int), (cA_13, .array (.object "TowerliftryModel$Car")), (cA_14, .object "TowerliftryModel$Car"), (cA_17, .long), (cA_19, .double)] _ := hK
  refine W.widen (k := 14) (n := 349) (Nat.le_refl _) (Nat.le_refl _) ?_
  refine lv_astore (lv' := [(4, .ref q_18), (3, .ref q_16), (2, .ref q_7), (1, .ref q_1), (0, .ref b)]) hx hb dL_law_23 hl (by decide) rfl (fun ls hl => ?_)
  refine lv_iconst (v := 0) hx hb dL_law_25 (by decide) ?_
  refine lv_istore (lv' := [(5, .int 0), (4, .ref q_18), (3, .ref q_16), (2, .ref q_7), (1, .ref q_1), (0, .ref b)]) hx hb dL_law_26 hl (by decide) rfl (fun ls hl => ?_)
  rcases Nat.lt_or_ge L 6 with h6 | h6
  · refine W.widen (k := 20000) (n := 60000) (Nat.le_of_ble_eq_true rfl) (Nat.le_of_ble_eq_true rfl) ?_
    exact tw_short h6 C0 hAe hS (lv_sub hl [0, 5] rfl)
  · have e6 : L = 6 := by omega
    subst e6
    exact tw_turn C0 hst hAe em kw kb D hF q_1 q_2 q_3 q_4 q_5 cA_6 q_7 q_8 q_9 q_10 q_11 q_12 cA_13 cA_14 q_15 q_16 cA_17 q_18 cA_19 H locs hK hP hD hS ls hl
