-- turns of a loop, counted
theorem tw_loop {σ : Type} (W' : σ → Prop) (n : Nat) (J : Nat → σ → Prop) (hs : ∀ (k : Nat) (y : σ), k < n → J k y → (∀ y', J (k + 1) y' → W' y') → W' y) (hx : ∀ y, J n y → W' y) (y : σ) (h : J 0 y) : W' y := by
  have key : ∀ (d k : Nat) (y : σ), k + d = n → J k y → W' y := by
    intro d
    induction d with
    | zero => intro k y hk hj; exact hx y (by rw [show n = k by omega]; exact hj)
    | succ d ih => intro k y hk hj; exact hs k y (by omega) hj (fun y' hj' => ih (k + 1) y' (by omega) hj')
  exact key n 0 y (by omega) h
theorem tw_ofn {n : Nat} (h : n ≤ 101) : (Int32.ofNat n).toInt = n := Int32.toInt_ofNat_of_lt (by omega)
theorem tw_hund {p : Int32} (h1 : ¬ p < 1) (h2 : p ≤ 100) : ∃ n : Nat, 1 ≤ n ∧ n ≤ 100 ∧ Int32.ofNat n = p := by
  rw [Int32.lt_iff_toInt_lt] at h1
  rw [Int32.le_iff_toInt_le] at h2
  have e1 : (1 : Int32).toInt = 1 := by decide
  have e2 : (100 : Int32).toInt = 100 := by decide
  rw [e1] at h1
  rw [e2] at h2
  refine ⟨p.toInt.toNat, by omega, by omega, ?_⟩
  apply Int32.toInt_inj.mp
  rw [tw_ofn (by omega)]
  omega
theorem tw_nlt {p q : Int32} (h : ¬ q < p) : p ≤ q := by
  rw [Int32.lt_iff_toInt_lt] at h
  rw [Int32.le_iff_toInt_le]
  omega
theorem tw_succ (k : Nat) : Int32.ofNat k + 1 = Int32.ofNat (k + 1) := by
  rw [Int32.ofNat_add]
  rfl
theorem tw_nle {k n : Nat} {p : Int32} (hk : k < n) (hn : n ≤ 100) (hp : Int32.ofNat n = p) : ¬ p ≤ Int32.ofNat k := by
  subst hp
  rw [Int32.le_iff_toInt_le, tw_ofn (by omega), tw_ofn (by omega)]
  omega
theorem tw_nneg {k n : Nat} (hk : k < n) (hn : n ≤ 100) : ¬ Int32.ofNat k < 0 := by
  rw [Int32.lt_iff_toInt_lt, tw_ofn (by omega)]
  have e0 : (0 : Int32).toInt = 0 := by decide
  rw [e0]
  omega

theorem dX3_pass_0 : decode cX3_pass 0 = .ok (.iload_n 1, 1) := by decide +kernel
theorem dX3_pass_1 : decode cX3_pass 1 = .ok (.iconst 1, 1) := by decide +kernel
theorem dX3_pass_2 : decode cX3_pass 2 = .ok (.if_icmp .lt 9, 3) := by decide +kernel
theorem dX3_pass_11 : decode cX3_pass 11 = .ok (.new 37, 3) := by decide +kernel
theorem dX3_pass_14 : decode cX3_pass 14 = .ok (.dup, 1) := by decide +kernel
theorem dX3_pass_15 : decode cX3_pass 15 = .ok (.ldc 145, 2) := by decide +kernel
theorem dX3_pass_17 : decode cX3_pass 17 = .ok (.invokespecial 41, 3) := by decide +kernel
theorem dX3_pass_20 : decode cX3_pass 20 = .ok (.athrow, 1) := by decide +kernel
theorem dX3_pass_5 : decode cX3_pass 5 = .ok (.iload_n 1, 1) := by decide +kernel
theorem dX3_pass_6 : decode cX3_pass 6 = .ok (.bipush 100, 2) := by decide +kernel
theorem dX3_pass_8 : decode cX3_pass 8 = .ok (.if_icmp .le 13, 3) := by decide +kernel
theorem dX3_pass_21 : decode cX3_pass 21 = .ok (.iconst 0, 1) := by decide +kernel
theorem dX3_pass_22 : decode cX3_pass 22 = .ok (.istore_n 2, 1) := by decide +kernel
theorem dX3_pass_23 : decode cX3_pass 23 = .ok (.iload_n 2, 1) := by decide +kernel
theorem dX3_pass_24 : decode cX3_pass 24 = .ok (.iload_n 1, 1) := by decide +kernel
theorem dX3_pass_25 : decode cX3_pass 25 = .ok (.if_icmp .ge 50, 3) := by decide +kernel
theorem dX3_pass_28 : decode cX3_pass 28 = .ok (.aload_n 0, 1) := by decide +kernel
set_option maxRecDepth 20000 in
theorem ggX3_pass_X3_waitOneTick : GoodIn wsX3_pass wsX3_waitOneTick := goodIn_r _ [10, 11, 12, 13, 14, 15, 16, 17, 18, 19, 20, 21, 22, 23, 24, 25, 26, 27, 28, 29, 30, 31, 32, 33, 34, 35, 36, 37, 38, 39, 40, 41, 42, 43, 9, 44, 45, 46, 47, 48, 49, 50, 51, 52, 53, 54, 55, 56, 57, 301, 302, 303, 304, 305, 306, 307, 308, 309, 310, 311, 312, 313, 314, 315, 316, 317, 318, 319, 320, 321, 322, 323, 324, 325, 326, 327, 328, 329, 330, 331, 332, 333, 334, 335, 336, 337, 338, 339, 340, 341] (by decide +kernel) (by decide +kernel)
set_option maxRecDepth 20000 in
theorem gX3_pass_X3_waitOneTick : GoodIn wsX3_pass (wsV RX3 147 RX3 yX3_waitOneTick wsX3_waitOneTick) := goodIn_app (goodIn_of _ (by decide +kernel)) ggX3_pass_X3_waitOneTick
theorem dX3_pass_29 : decode cX3_pass 29 = .ok (.invokevirtual 147, 3) := by decide +kernel
theorem dX3_pass_32 : decode cX3_pass 32 = .ok (.aload_n 0, 1) := by decide +kernel
theorem dX3_pass_33 : decode cX3_pass 33 = .ok (.getfield 34, 3) := by decide +kernel
theorem dX3_pass_36 : decode cX3_pass 36 = .ok (.iconst (-1), 1) := by decide +kernel
theorem dX3_pass_37 : decode cX3_pass 37 = .ok (.if_icmp .ne 7, 3) := by decide +kernel
theorem dX3_pass_40 : decode cX3_pass 40 = .ok (.aload_n 0, 1) := by decide +kernel
set_option maxRecDepth 20000 in
theorem ggX3_pass_X3_promiseCalls : GoodIn wsX3_pass wsX3_promiseCalls := goodIn_ca (goodIn_r _ [61, 11, 12, 45, 46, 47, 48, 62, 18, 19, 20, 21, 22, 23, 24, 25, 26, 27, 28, 29, 30, 31, 32, 33, 34, 35, 36, 37, 38, 39, 40, 63, 64, 9, 65, 66, 67, 68, 69, 70, 71, 72, 73, 74, 13, 14, 15, 54, 53, 55, 56, 57, 75, 76, 77, 78, 79, 80, 81, 82, 83, 84, 85, 86, 87, 88, 89, 90, 91, 92, 93, 94, 95, 96, 97, 98, 99, 100, 101, 102, 103, 104, 105, 106, 107, 108, 109, 110, 111, 112, 113, 114, 115, 116, 117, 118, 119, 120, 121, 122, 123, 124, 125, 126, 127, 128, 129, 130, 131, 132, 133, 134, 135, 136, 137, 138, 301, 302, 303, 304, 305, 306, 307, 308, 309, 310, 311, 312, 323, 324, 325, 326, 327, 328, 329, 330, 331, 332, 333, 334, 335, 336, 337, 338, 339, 340, 341, 320, 321, 322, 313, 314, 315, 316, 317, 318, 319] (by decide +kernel) (by decide +kernel)) (goodIn_sub (fun _ h => List.mem_cons_of_mem _ (List.mem_append_left _ (List.mem_append_right _ h))) (by decide +kernel))
set_option maxRecDepth 20000 in
theorem gX3_pass_X3_promiseCalls : GoodIn wsX3_pass (wsV RX3 150 RX3 yX3_promiseCalls wsX3_promiseCalls) := goodIn_app (goodIn_of _ (by decide +kernel)) ggX3_pass_X3_promiseCalls
theorem dX3_pass_41 : decode cX3_pass 41 = .ok (.invokevirtual 150, 3) := by decide +kernel
theorem dX3_pass_44 : decode cX3_pass 44 = .ok (.aload_n 0, 1) := by decide +kernel
theorem dX3_pass_45 : decode cX3_pass 45 = .ok (.getfield 153, 3) := by decide +kernel
theorem dX3_pass_48 : decode cX3_pass 48 = .ok (.aload_n 0, 1) := by decide +kernel
theorem dX3_pass_49 : decode cX3_pass 49 = .ok (.getfield 156, 3) := by decide +kernel
theorem dX3_pass_52 : decode cX3_pass 52 = .ok (.if_icmp .lt 7, 3) := by decide +kernel
theorem dX3_pass_55 : decode cX3_pass 55 = .ok (.aload_n 0, 1) := by decide +kernel
set_option maxRecDepth 20000 in
theorem ggX3_pass_X3_letCarsAct : GoodIn wsX3_pass wsX3_letCarsAct := goodIn_ca (goodIn_r _ [142, 45, 46, 143, 3, 18, 19, 20, 21, 22, 23, 24, 25, 26, 27, 28, 29, 30, 31, 32, 33, 34, 35, 36, 37, 38, 39, 40, 144, 145, 146, 9, 147, 62, 94, 148, 149, 150, 151, 82, 152, 153, 154, 155, 156, 97, 157, 158, 159, 160, 161, 162, 163, 164, 165, 166, 167, 168, 169, 170, 13, 14, 53, 15, 16, 171, 172, 173, 174, 175, 176, 177, 178, 179, 180, 181, 182, 183, 184, 54, 185, 4, 186, 187, 188, 189, 190, 191, 192, 193, 194, 195, 196, 197, 198, 199, 200, 201, 202, 203, 204, 205, 206, 207, 208, 209, 210, 49, 50, 51, 52, 11, 12, 55, 56, 57, 211, 212, 213, 214, 215, 216, 217, 218, 219, 220, 221, 222, 223, 224, 225, 95, 96, 98, 226, 227, 228, 229, 230, 231, 232, 233, 234, 235, 84, 236, 111, 112, 113, 114, 115, 116, 117, 237, 238, 239, 240, 241, 242, 243, 244, 245, 246, 247, 248, 63, 64, 65, 249, 250, 251, 252, 253, 254, 255, 256, 257, 258, 259, 105, 85, 260, 104, 133, 261, 262, 41, 42, 43, 44, 47, 48, 263, 264, 265, 266, 267, 268, 269, 270, 271, 272, 273, 274, 275, 276, 277, 278, 279, 280, 281, 282, 283, 284, 285, 286, 287, 288, 289, 290, 291, 292, 293, 294, 295, 296, 297, 298, 299, 300, 301, 302, 303, 304, 305, 306, 307, 308, 309, 310, 311, 312, 323, 324, 325, 326, 327, 328, 329, 330, 331, 332, 333, 334, 335, 336, 337, 338, 339, 340, 341, 320, 321, 322, 313, 314, 315, 316, 317, 318, 319, 342, 343] (by decide +kernel) (by decide +kernel)) (goodIn_sub (fun _ h => List.mem_cons_of_mem _ (List.mem_append_right _ h)) (by decide +kernel))
set_option maxRecDepth 20000 in
theorem gX3_pass_X3_letCarsAct : GoodIn wsX3_pass (wsV RX3 159 RX3 yX3_letCarsAct wsX3_letCarsAct) := goodIn_app (goodIn_of _ (by decide +kernel)) ggX3_pass_X3_letCarsAct
theorem dX3_pass_56 : decode cX3_pass 56 = .ok (.invokevirtual 159, 3) := by decide +kernel
theorem dX3_pass_59 : decode cX3_pass 59 = .ok (.aload_n 0, 1) := by decide +kernel
theorem dX3_pass_60 : decode cX3_pass 60 = .ok (.dup, 1) := by decide +kernel
theorem dX3_pass_61 : decode cX3_pass 61 = .ok (.getfield 153, 3) := by decide +kernel
theorem dX3_pass_64 : decode cX3_pass 64 = .ok (.iconst 1, 1) := by decide +kernel
theorem dX3_pass_65 : decode cX3_pass 65 = .ok (.iadd, 1) := by decide +kernel
theorem dX3_pass_66 : decode cX3_pass 66 = .ok (.putfield 153, 3) := by decide +kernel
theorem dX3_pass_69 : decode cX3_pass 69 = .ok (.iinc 2 1, 3) := by decide +kernel
theorem dX3_pass_72 : decode cX3_pass 72 = .ok (.goto (-49), 3) := by decide +kernel
theorem dX3_pass_75 : decode cX3_pass 75 = .ok (.aload_n 0, 1) := by decide +kernel
theorem dX3_pass_76 : decode cX3_pass 76 = .ok (.getfield 153, 3) := by decide +kernel
theorem dX3_pass_79 : decode cX3_pass 79 = .ok (.ireturn, 1) := by decide +kernel
set_option maxHeartbeats 4000000 in
set_option maxRecDepth 100000 in
theorem c_X3_pass (l : Launch) (hst : l.stackTraces = false) (em kw kb : Nat) (D : va_G) (x : Nat) (p0 : Int32) (c1 : Nat) (ps1 : Nat) (lg : Nat) (sz : Nat) : vx_Met l yX3_pass wsX3_pass ({ frames := 6, cells := 1, slots := 6, locals := 82 }) (va_Pc [.ref x, .int p0] (tw_Pre em kw kb D sz [(x, .inr (7, [.ref c1, .ref ps1, .ref lg, .int 9, .int 99, .int 0, .int 0, .int 0, .int ((-1)), .int 0, .int 0, .long 0])), (c1, .inr (3, [.int 0, .ref em, .int 0]))] [])) (va_Qi (fun (r : Int32) (u : tw_U) => (¬ p0 < 1 ∧ p0 ≤ 100) ∧ r = p0 ∧ u = ([], [])) (tw_B D (va_A [(x, .inr (7, [.ref c1, .ref ps1, .ref lg, .int 9, .int 99, .int 0, .int 0, .int 0, .int ((-1)), .int 0, .int 0, .long 0])), (c1, .inr (3, [.int 0, .ref em, .int 0]))] sz)) (va_A [(x, .inr (7, [.ref c1, .ref ps1, .ref lg, .int 9, .int 99, .int 0, .int 0, .int 0, .int ((-1)), .int 0, .int 0, .long 0])), (c1, .inr (3, [.int 0, .ref em, .int 0]))] sz)) (vx_X (fun (u : String × tw_U) => ((p0 < 1) ∨ (¬ p0 < 1 ∧ ¬ p0 ≤ 100)) ∧ u = ("java/lang/IllegalArgumentException", (([], []) : tw_U))) (tw_BX D (va_A [(x, .inr (7, [.ref c1, .ref ps1, .ref lg, .int 9, .int 99, .int 0, .int 0, .int 0, .int ((-1)), .int 0, .int 0, .long 0])), (c1, .inr (3, [.int 0, .ref em, .int 0]))] sz)) (va_A [(x, .inr (7, [.ref c1, .ref ps1, .ref lg, .int 9, .int 99, .int 0, .int 0, .int 0, .int ((-1)), .int 0, .int 0, .long 0])), (c1, .inr (3, [.int 0, .ref em, .int 0]))] sz)) 1 6 (va_A [(x, .inr (7, [.ref c1, .ref ps1, .ref lg, .int 9, .int 99, .int 0, .int 0, .int 0, .int ((-1)), .int 0, .int 0, .long 0])), (c1, .inr (3, [.int 0, .ref em, .int 0]))] sz) := by
  refine vx_ofW (cc := cX3_pass) (maxL := 3) (ret := (some .int)) (by decide) rfl ?_
  intro p e s m args below meth c s₁ B hml htab hv
  obtain ⟨rfl, hsz, hP, hK, hD0, hF⟩ := hv
  have hx := B.exec
  have hb := B.bytes
  have hr := B.returns
  have hts := atoms_spec (ws := wsX3_pass) B.pre
  have hown : s.vm.findClass RX3 = some m.cls := findClass_of_methodNamed B.named
  have hlocks := B.notSynchronized
  have hiRX3 : ∀ w ∈ u_ws RX3 TX3 12, w ∈ wsX3_pass := by decide +kernel
  have hx41 : ∀ w ∈ (vx_atS RX3 41 "java/lang/IllegalArgumentException" ["java/lang/RuntimeException", "java/lang/Exception"]).filter goodWord, w ∈ wsX3_pass := by decide +kernel
  subst hsz
  have hD := hD0.self (sz := s.heap.size)
  generalize hAe : va_A [(x, .inr (7, [.ref c1, .ref ps1, .ref lg, .int 9, .int 99, .int 0, .int 0, .int 0, .int ((-1)), .int 0, .int 0, .long 0])), (c1, .inr (3, [.int 0, .ref em, .int 0]))] s.heap.size = A at hD hF ⊢
  have hA : ∀ q : Nat, s.heap.size ≤ q → A q := fun q h => by rw [← hAe]; exact Or.inr h
  have hS : va_S A s.heap s.heap [] := va_S.rf
  have hP : va_P D vwCl [(x, .inr (7, [.ref c1, .ref ps1, .ref lg, .int 9, .int 99, .int 0, .int 0, .int 0, .int ((-1)), .int 0, .int 0, .long 0])), (c1, .inr (3, [.int 0, .ref em, .int 0]))] s.heap := hP
  have hl := lv_entry ([.ref x, .int p0]) (n := 3) (Nat.le_of_ble_eq_true rfl)
  rw [lg_entry_eq]
  generalize (lg_sl ([.ref x, .int p0]) ++ List.replicate (3 - (lg_sl ([.ref x, .int p0])).length) Slot.unset).toArray = ls at hl ⊢
  have hl : lv_has ls 3 [(0, .ref x), (1, .int p0)] := hl
  refine lv_iload_n hx hb dX3_pass_0 rfl (lv_at hl 1 rfl) ?_
  refine lv_iconst (v := 1) hx hb dX3_pass_1 (by decide) ?_
  refine lv_icmp_lt (tgt := 11) hx hb dX3_pass_2 (by decide) (fun c_1 => ?_) (fun c_1 => ?_)
  · obtain ⟨sa, hstr⟩ := tw_str hF (q := (145, "the ticks are out of range")) (by decide)
    have hP9 := hP.sub (ws' := []) [] rfl
    have hD9 := hD.sub (ws' := []) [] (by decide) rfl
    have hK9 := hK.sub (tys' := []) [] rfl
    exact vx_throwS hx hb hst (own := RX3) (cls := "java/lang/IllegalArgumentException") (text := "the ticks are out of range") (names := ["java/lang/RuntimeException", "java/lang/Exception"]) (ik := 37) (is := 145) (ic := 41) hown (by decide +kernel) (by decide +kernel) (hts (.classLink RX3 37 "java/lang/IllegalArgumentException") (by decide +kernel)) (hts (.initialized "java/lang/IllegalArgumentException") (by decide +kernel)) hstr (tw_hat hF (fun w h => hts w (hx41 w h)) (by decide +kernel)) (by decide +kernel) hF.1 hF.2.1 hS (hl.1.trans hml.symm) dX3_pass_11 dX3_pass_14 dX3_pass_15 dX3_pass_17 dX3_pass_20 (fun x9 h9 => (htab x9 h9).elim) (Nat.le_of_ble_eq_true rfl) (Nat.le_of_ble_eq_true rfl) (Nat.le_of_ble_eq_true rfl) (Nat.le_of_ble_eq_true rfl) hlocks (tw_exc hP9 hK9 hD9 hS _ ⟨(Or.inl c_1), rfl⟩) hS.2.2 (Nat.le_of_ble_eq_true rfl) (Nat.le_of_ble_eq_true rfl)
  · refine lv_iload_n hx hb dX3_pass_5 rfl (lv_at hl 1 rfl) ?_
    refine lv_bipush (v := 100) hx hb dX3_pass_6 (by decide) ?_
    refine lv_icmp_le (tgt := 21) hx hb dX3_pass_8 (by decide) (fun c_2 => ?_) (fun c_2 => ?_)
    · refine lv_iconst (v := 0) hx hb dX3_pass_21 (by decide) ?_
      refine lv_istore_n (lv' := [(2, .int 0), (0, .ref x), (1, .int p0)]) hx hb dX3_pass_22 rfl hl (by decide) rfl (fun ls hl => ?_)
      obtain ⟨n9, hn1, hn9, hp9⟩ := tw_hund c_1 c_2
      refine tw_loop (fun y : Array Slot × Heap × List Loc × Nat × Nat => W p l e _ s m _ below meth c y.2.1 y.2.2.1 y.2.2.2.1 y.2.2.2.2 _ (F0 m 23 y.1 [])) n9 (fun (k9 : Nat) (y : Array Slot × Heap × List Loc × Nat × Nat) => lv_has y.1 3 [(2, .int (Int32.ofNat k9)), (0, .ref x), (1, .int p0)] ∧ va_P D vwCl [(x, .inr (7, [.ref c1, .ref ps1, .ref lg, .int 9, .int 99, .int (Int32.ofNat k9), .int 0, .int 0, .int ((-1)), .int 0, .int 0, .long 0])), (c1, .inr (3, [.int 0, .ref em, .int 0]))] y.2.1 ∧ va_D A [(x, .inr (7, [.ref c1, .ref ps1, .ref lg, .int 9, .int 99, .int (Int32.ofNat k9), .int 0, .int 0, .int ((-1)), .int 0, .int 0, .long 0])), (c1, .inr (3, [.int 0, .ref em, .int 0]))] ∧ va_S A s.heap y.2.1 y.2.2.1 ∧ y.2.2.2.1 = 0 ∧ y.2.2.2.2 = 0) ?_ ?_ (ls, _, _, 0, 0) ⟨hl, hP, hD, hS, rfl, rfl⟩
      · rintro k9 ⟨ls, H, locs, kc9, ks9⟩ hk9 ⟨hl, hP, hD, hS, hkc, hks⟩ hgo
        have hkc : kc9 = 0 := hkc
        have hks : ks9 = 0 := hks
        subst hkc hks
        have hl : lv_has ls 3 [(2, .int (Int32.ofNat k9)), (0, .ref x), (1, .int p0)] := hl
        have hP : va_P D vwCl [(x, .inr (7, [.ref c1, .ref ps1, .ref lg, .int 9, .int 99, .int (Int32.ofNat k9), .int 0, .int 0, .int ((-1)), .int 0, .int 0, .long 0])), (c1, .inr (3, [.int 0, .ref em, .int 0]))] H := hP
        have hD : va_D A [(x, .inr (7, [.ref c1, .ref ps1, .ref lg, .int 9, .int 99, .int (Int32.ofNat k9), .int 0, .int 0, .int ((-1)), .int 0, .int 0, .long 0])), (c1, .inr (3, [.int 0, .ref em, .int 0]))] := hD
        have hS : va_S A s.heap H locs := hS
        show W p l e _ s m _ below meth c H locs 0 0 _ (F0 m 23 ls [])
        refine lv_iload_n hx hb dX3_pass_23 rfl (lv_at hl 0 rfl) ?_
        refine lv_iload_n hx hb dX3_pass_24 rfl (lv_at hl 2 rfl) ?_
        refine lv_icmp_ge (tgt := 75) hx hb dX3_pass_25 (by decide) (fun c9 => absurd c9 (tw_nle hk9 hn9 hp9)) (fun _ => ?_)
        refine lv_aload_n hx hb dX3_pass_28 rfl (lv_at hl 1 rfl) ?_
        have hPc := hP.sub (ws' := [(x, .inr (7, [.ref c1, .ref ps1, .ref lg, .int 9, .int 99, .int (Int32.ofNat k9), .int 0, .int 0, .int ((-1)), .int 0, .int 0, .long 0]))]) [0] rfl
        have hDc := hD.sub (ws' := [(x, .inr (7, [.ref c1, .ref ps1, .ref lg, .int 9, .int 99, .int (Int32.ofNat k9), .int 0, .int 0, .int ((-1)), .int 0, .int 0, .long 0]))]) [0] (by decide) rfl
        have hKc := hK.sub (tys' := []) [] rfl
        have hFc := va_free (wc := [(x, .inr (7, [.ref c1, .ref ps1, .ref lg, .int 9, .int 99, .int (Int32.ofNat k9), .int 0, .int 0, .int ((-1)), .int 0, .int 0, .long 0]))]) hD hS hA [0] rfl
        refine va_callv (va_runV (As := []) (rest := []) ⟨hx, hb, hml, hown, hts⟩ (c_X3_waitOneTick l hst em kw kb D x c1 ps1 lg (Int32.ofNat k9) _) (cwV 0 hts gX3_pass_X3_waitOneTick rfl rfl rfl (by decide +kernel) ⟨(Nat.le_of_ble_eq_true rfl), (Nat.le_of_ble_eq_true rfl)⟩) (tw_preV hF hS hFc hPc hKc hDc (va_recv hKc hPc (ci := 7) (q0 := 0) rfl rfl)) rfl rfl hl.1 rfl (lv_room (Nat.le_of_ble_eq_true rfl)) dX3_pass_29 ⟨(Nat.le_of_ble_eq_true rfl), (Nat.le_of_ble_eq_true rfl)⟩) hS (fun q _ h => hFc q h) hFc (fun u t H locs ht hvm hw hB hz1 hk1 hS => ?_)
        subst hw
        obtain ⟨hP, hD, hK⟩ := tw_join (wr := [(c1, .inr (3, [.int 0, .ref em, .int 0]))]) hP hD hK [0] [1] rfl rfl (by decide) (by decide) hk1 hFc ht hvm hB
        have hP : va_P D vwCl [(c1, .inr (3, [.int 0, .ref em, .int 0])), (x, .inr (7, [.ref c1, .ref ps1, .ref lg, .int 9, .int 99, .int ((Int32.ofNat k9)), .int 0, .int 0, .int ((-1)), .int 0, .int 0, .long 0]))] _ := hP
        have hD : va_D A [(c1, .inr (3, [.int 0, .ref em, .int 0])), (x, .inr (7, [.ref c1, .ref ps1, .ref lg, .int 9, .int 99, .int ((Int32.ofNat k9)), .int 0, .int 0, .int ((-1)), .int 0, .int 0, .long 0]))] := hD
        have hK : va_K D vwCl [] s := hK
        refine W.widen (k := 0) (n := 0) (Nat.le_refl _) (Nat.le_refl _) ?_
        refine W.eq (g2 := F0 m 32 ls []) rfl ?_
        refine lv_aload_n hx hb dX3_pass_32 rfl (lv_at hl 1 rfl) ?_
        refine va_get (D := D) (ci := 7) (v := .int ((-1))) (C := RX3) (T := TX3) (N := 12) hx hb hts hiRX3 hown hK hP 1 rfl rfl 8 (by decide) (hts (.fieldLink RX3 34 "Towerliftry" "fireFloor" "I") (by decide +kernel)) (fun _ h9 => h9) rfl dX3_pass_33 ?_
        refine lv_iconst (v := (-1)) hx hb dX3_pass_36 (by decide) ?_
        refine lv_icmp_ne (tgt := 44) hx hb dX3_pass_37 (by decide) (fun c9 => absurd c9 (by decide)) (fun c9 => ?_)
        refine lv_aload_n hx hb dX3_pass_40 rfl (lv_at hl 1 rfl) ?_
        have hPc := hP.sub (ws' := [(x, .inr (7, [.ref c1, .ref ps1, .ref lg, .int 9, .int 99, .int ((Int32.ofNat k9)), .int 0, .int 0, .int ((-1)), .int 0, .int 0, .long 0])), (c1, .inr (3, [.int 0, .ref em, .int 0]))]) [1, 0] rfl
        have hDc := hD.sub (ws' := [(x, .inr (7, [.ref c1, .ref ps1, .ref lg, .int 9, .int 99, .int ((Int32.ofNat k9)), .int 0, .int 0, .int ((-1)), .int 0, .int 0, .long 0])), (c1, .inr (3, [.int 0, .ref em, .int 0]))]) [1, 0] (by decide) rfl
        have hKc := hK.sub (tys' := []) [] rfl
        have hFc := va_free (wc := [(x, .inr (7, [.ref c1, .ref ps1, .ref lg, .int 9, .int 99, .int ((Int32.ofNat k9)), .int 0, .int 0, .int ((-1)), .int 0, .int 0, .long 0])), (c1, .inr (3, [.int 0, .ref em, .int 0]))]) hD hS hA [1, 0] rfl
        refine va_callv (va_runV (As := []) (rest := []) ⟨hx, hb, hml, hown, hts⟩ (c_X3_promiseCalls l hst em kw kb D x c1 ps1 lg ((Int32.ofNat k9)) _) (cwV 0 hts gX3_pass_X3_promiseCalls rfl rfl rfl (by decide +kernel) ⟨(Nat.le_of_ble_eq_true rfl), (Nat.le_of_ble_eq_true rfl)⟩) (tw_preV hF hS hFc hPc hKc hDc (va_recv hKc hPc (ci := 7) (q0 := 0) rfl rfl)) rfl rfl hl.1 rfl (lv_room (Nat.le_of_ble_eq_true rfl)) dX3_pass_41 ⟨(Nat.le_of_ble_eq_true rfl), (Nat.le_of_ble_eq_true rfl)⟩) hS (fun q _ h => hFc q h) hFc (fun u t H locs ht hvm hw hB hz1 hk1 hS => ?_)
        subst hw
        obtain ⟨hP, hD, hK⟩ := tw_join (wr := []) hP hD hK [1, 0] [] rfl rfl (by decide) (by decide) hk1 hFc ht hvm hB
        have hP : va_P D vwCl [(x, .inr (7, [.ref c1, .ref ps1, .ref lg, .int 9, .int 99, .int (((Int32.ofNat k9))), .int 0, .int 0, .int ((-1)), .int 0, .int 0, .long 0])), (c1, .inr (3, [.int 0, .ref em, .int 0]))] _ := hP
        have hD : va_D A [(x, .inr (7, [.ref c1, .ref ps1, .ref lg, .int 9, .int 99, .int (((Int32.ofNat k9))), .int 0, .int 0, .int ((-1)), .int 0, .int 0, .long 0])), (c1, .inr (3, [.int 0, .ref em, .int 0]))] := hD
        have hK : va_K D vwCl [] s := hK
        refine W.widen (k := 0) (n := 0) (Nat.le_refl _) (Nat.le_refl _) ?_
        refine W.eq (g2 := F0 m 44 ls []) rfl ?_
        refine lv_aload_n hx hb dX3_pass_44 rfl (lv_at hl 1 rfl) ?_
        refine va_get (D := D) (ci := 7) (v := .int (((Int32.ofNat k9)))) (C := RX3) (T := TX3) (N := 12) hx hb hts hiRX3 hown hK hP 0 rfl rfl 5 (by decide) (hts (.fieldLink RX3 153 "Towerliftry" "tick" "I") (by decide +kernel)) (fun _ h9 => h9) rfl dX3_pass_45 ?_
        refine lv_aload_n hx hb dX3_pass_48 rfl (lv_at hl 1 rfl) ?_
        refine va_get (D := D) (ci := 7) (v := .int 0) (C := RX3) (T := TX3) (N := 12) hx hb hts hiRX3 hown hK hP 0 rfl rfl 9 (by decide) (hts (.fieldLink RX3 156 "Towerliftry" "stillUntil" "I") (by decide +kernel)) (fun _ h9 => h9) rfl dX3_pass_49 ?_
        refine lv_icmp_lt (tgt := 59) hx hb dX3_pass_52 (by decide) (fun c_3 => absurd c_3 (tw_nneg hk9 hn9)) (fun c_3 => ?_)
        refine lv_aload_n hx hb dX3_pass_55 rfl (lv_at hl 1 rfl) ?_
        have hPc := hP.sub (ws' := [(x, .inr (7, [.ref c1, .ref ps1, .ref lg, .int 9, .int 99, .int (((Int32.ofNat k9))), .int 0, .int 0, .int ((-1)), .int 0, .int 0, .long 0])), (c1, .inr (3, [.int 0, .ref em, .int 0]))]) [0, 1] rfl
        have hDc := hD.sub (ws' := [(x, .inr (7, [.ref c1, .ref ps1, .ref lg, .int 9, .int 99, .int (((Int32.ofNat k9))), .int 0, .int 0, .int ((-1)), .int 0, .int 0, .long 0])), (c1, .inr (3, [.int 0, .ref em, .int 0]))]) [0, 1] (by decide) rfl
        have hKc := hK.sub (tys' := []) [] rfl
        have hFc := va_free (wc := [(x, .inr (7, [.ref c1, .ref ps1, .ref lg, .int 9, .int 99, .int (((Int32.ofNat k9))), .int 0, .int 0, .int ((-1)), .int 0, .int 0, .long 0])), (c1, .inr (3, [.int 0, .ref em, .int 0]))]) hD hS hA [0, 1] rfl
        refine va_callv (va_runV (As := []) (rest := []) ⟨hx, hb, hml, hown, hts⟩ (c_X3_letCarsAct l hst em kw kb D x c1 ps1 lg (((Int32.ofNat k9))) _) (cwV 0 hts gX3_pass_X3_letCarsAct rfl rfl rfl (by decide +kernel) ⟨(Nat.le_of_ble_eq_true rfl), (Nat.le_of_ble_eq_true rfl)⟩) (tw_preV hF hS hFc hPc hKc hDc (va_recv hKc hPc (ci := 7) (q0 := 0) rfl rfl)) rfl rfl hl.1 rfl (lv_room (Nat.le_of_ble_eq_true rfl)) dX3_pass_56 ⟨(Nat.le_of_ble_eq_true rfl), (Nat.le_of_ble_eq_true rfl)⟩) hS (fun q _ h => hFc q h) hFc (fun u t H locs ht hvm hw hB hz1 hk1 hS => ?_)
        subst hw
        obtain ⟨hP, hD, hK⟩ := tw_join (wr := []) hP hD hK [0, 1] [] rfl rfl (by decide) (by decide) hk1 hFc ht hvm hB
        have hP : va_P D vwCl [(x, .inr (7, [.ref c1, .ref ps1, .ref lg, .int 9, .int 99, .int ((((Int32.ofNat k9)))), .int 0, .int 0, .int ((-1)), .int 0, .int 0, .long 0])), (c1, .inr (3, [.int 0, .ref em, .int 0]))] _ := hP
        have hD : va_D A [(x, .inr (7, [.ref c1, .ref ps1, .ref lg, .int 9, .int 99, .int ((((Int32.ofNat k9)))), .int 0, .int 0, .int ((-1)), .int 0, .int 0, .long 0])), (c1, .inr (3, [.int 0, .ref em, .int 0]))] := hD
        have hK : va_K D vwCl [] s := hK
        refine W.widen (k := 0) (n := 0) (Nat.le_refl _) (Nat.le_refl _) ?_
        refine W.eq (g2 := F0 m 59 ls []) rfl ?_
        refine lv_aload_n hx hb dX3_pass_59 rfl (lv_at hl 1 rfl) ?_
        refine lv_dup hx hb dX3_pass_60 rfl ?_
        refine va_get (D := D) (ci := 7) (v := .int ((((Int32.ofNat k9))))) (C := RX3) (T := TX3) (N := 12) hx hb hts hiRX3 hown hK hP 0 rfl rfl 5 (by decide) (hts (.fieldLink RX3 153 "Towerliftry" "tick" "I") (by decide +kernel)) (fun _ h9 => h9) rfl dX3_pass_61 ?_
        refine lv_iconst (v := 1) hx hb dX3_pass_64 (by decide) ?_
        refine lv_iadd hx hb dX3_pass_65 ?_
        refine va_put (D := D) (ci := 7) (v := .int (((((Int32.ofNat k9)))) + (1 : Int32))) (ty := .int) (C := RX3) (T := TX3) (N := 12) hx hb hts hiRX3 tyX3 tyX3_ok nmX3 hown hK hP hD hS 0 rfl rfl 5 (by decide) (hts (.fieldLink RX3 153 "Towerliftry" "tick" "I") (by decide +kernel)) (fun _ h9 => h9) rfl (by decide +kernel) rfl rfl (Nat.le_of_ble_eq_true rfl) dX3_pass_66 (fun H locs hP hD hS => ?_)
        have hP : va_P D vwCl [(x, .inr (7, [.ref c1, .ref ps1, .ref lg, .int 9, .int 99, .int (((((Int32.ofNat k9)))) + (1 : Int32)), .int 0, .int 0, .int ((-1)), .int 0, .int 0, .long 0])), (c1, .inr (3, [.int 0, .ref em, .int 0]))] _ := hP
        have hD : va_D A [(x, .inr (7, [.ref c1, .ref ps1, .ref lg, .int 9, .int 99, .int (((((Int32.ofNat k9)))) + (1 : Int32)), .int 0, .int 0, .int ((-1)), .int 0, .int 0, .long 0])), (c1, .inr (3, [.int 0, .ref em, .int 0]))] := hD
        refine lv_iinc (v := ((Int32.ofNat k9) + 1)) (lv' := [(2, .int ((Int32.ofNat k9) + 1)), (0, .ref x), (1, .int p0)]) hx hb dX3_pass_69 hl (k := 0) rfl rfl (by decide) rfl (fun ls hl => ?_)
        refine lv_goto (tgt := 23) hx hb dX3_pass_72 (by decide) ?_
        rw [tw_succ] at hl hP hD
        exact hgo (ls, H, locs, 0, 0) ⟨hl, hP, hD, hS, rfl, rfl⟩
      · rintro ⟨ls, H, locs, kc9, ks9⟩ ⟨hl, hP, hD, hS, hkc, hks⟩
        have hkc : kc9 = 0 := hkc
        have hks : ks9 = 0 := hks
        subst hkc hks
        have hl : lv_has ls 3 [(2, .int (Int32.ofNat n9)), (0, .ref x), (1, .int p0)] := hl
        have hP : va_P D vwCl [(x, .inr (7, [.ref c1, .ref ps1, .ref lg, .int 9, .int 99, .int (Int32.ofNat n9), .int 0, .int 0, .int ((-1)), .int 0, .int 0, .long 0])), (c1, .inr (3, [.int 0, .ref em, .int 0]))] H := hP
        have hD : va_D A [(x, .inr (7, [.ref c1, .ref ps1, .ref lg, .int 9, .int 99, .int (Int32.ofNat n9), .int 0, .int 0, .int ((-1)), .int 0, .int 0, .long 0])), (c1, .inr (3, [.int 0, .ref em, .int 0]))] := hD
        have hS : va_S A s.heap H locs := hS
        rw [hp9] at hl hP hD
        show W p l e _ s m _ below meth c H locs 0 0 _ (F0 m 23 ls [])
        refine lv_iload_n hx hb dX3_pass_23 rfl (lv_at hl 0 rfl) ?_
        refine lv_iload_n hx hb dX3_pass_24 rfl (lv_at hl 2 rfl) ?_
        refine lv_icmp_ge (tgt := 75) hx hb dX3_pass_25 (by decide) (fun _ => ?_) (fun c9 => absurd (Int32.le_refl p0) c9)
        refine lv_aload_n hx hb dX3_pass_75 rfl (lv_at hl 1 rfl) ?_
        refine va_get (D := D) (ci := 7) (v := .int p0) (C := RX3) (T := TX3) (N := 12) hx hb hts hiRX3 hown hK hP 0 rfl rfl 5 (by decide) (hts (.fieldLink RX3 153 "Towerliftry" "tick" "I") (by decide +kernel)) (fun _ h9 => h9) rfl dX3_pass_76 ?_
        refine W.widen (k := 1) (n := 6) (Nat.le_of_ble_eq_true rfl) (Nat.le_of_ble_eq_true rfl) ?_
        have hP9 := hP.sub (ws' := []) [] rfl
        have hD9 := hD.sub (ws' := []) [] (by decide) rfl
        have hK9 := hK.sub (tys' := []) [] rfl
        refine vx_ret ?_
        exact W.iret (v := p0) hx hb hr (fun t ht hW => ⟨⟨p0, ([], []), rfl, ⟨⟨c_1, c_2⟩, rfl, rfl⟩, by rw [ht]; exact hP9, va_K.moved hW.alike hK9, hD9⟩, hS.F ht⟩) hS.2.2 dX3_pass_79
    · obtain ⟨sa, hstr⟩ := tw_str hF (q := (145, "the ticks are out of range")) (by decide)
      have hP9 := hP.sub (ws' := []) [] rfl
      have hD9 := hD.sub (ws' := []) [] (by decide) rfl
      have hK9 := hK.sub (tys' := []) [] rfl
      exact vx_throwS hx hb hst (own := RX3) (cls := "java/lang/IllegalArgumentException") (text := "the ticks are out of range") (names := ["java/lang/RuntimeException", "java/lang/Exception"]) (ik := 37) (is := 145) (ic := 41) hown (by decide +kernel) (by decide +kernel) (hts (.classLink RX3 37 "java/lang/IllegalArgumentException") (by decide +kernel)) (hts (.initialized "java/lang/IllegalArgumentException") (by decide +kernel)) hstr (tw_hat hF (fun w h => hts w (hx41 w h)) (by decide +kernel)) (by decide +kernel) hF.1 hF.2.1 hS (hl.1.trans hml.symm) dX3_pass_11 dX3_pass_14 dX3_pass_15 dX3_pass_17 dX3_pass_20 (fun x9 h9 => (htab x9 h9).elim) (Nat.le_of_ble_eq_true rfl) (Nat.le_of_ble_eq_true rfl) (Nat.le_of_ble_eq_true rfl) (Nat.le_of_ble_eq_true rfl) hlocks (tw_exc hP9 hK9 hD9 hS _ ⟨(Or.inr (⟨c_1, c_2⟩)), rfl⟩) hS.2.2 (Nat.le_of_ble_eq_true rfl) (Nat.le_of_ble_eq_true rfl)
