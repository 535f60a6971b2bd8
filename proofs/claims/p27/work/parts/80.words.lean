set_option maxRecDepth 20000 in
theorem st_r1 : GoodIn lw_tbl wsL_law_r1 := goodIn_r _ [21, 22, 15, 23, 24, 25, 26, 27, 28, 76, 223, 29, 30, 16, 227, 77, 78, 17, 228, 229, 230, 232, 257, 233] (by decide +kernel) (by decide +kernel)
set_option maxRecDepth 20000 in
theorem st_r2 : GoodIn lw_tbl wsL_law_r2 := goodIn_r _ [165, 105, 32, 33, 34, 45, 48, 50, 52, 55, 80, 81, 82, 104, 83, 106, 85, 86, 18, 108, 110, 88, 89, 90] (by decide +kernel) (by decide +kernel)
set_option maxRecDepth 20000 in
theorem st_r3 : GoodIn lw_tbl wsL_law_r3 := goodIn_r _ [93, 95, 167, 168, 169, 170, 171, 19, 172, 173, 175, 174, 20, 176, 177, 178, 179, 35, 38, 40, 180, 181, 182, 183] (by decide +kernel) (by decide +kernel)
set_option maxRecDepth 20000 in
theorem st_r4 : GoodIn lw_tbl wsL_law_r4 := goodIn_r _ [185, 186, 187, 189, 0, 190, 192, 193, 194, 196, 1, 197, 198, 200, 2, 201, 202, 203, 204, 205, 112, 114, 116, 118] (by decide +kernel) (by decide +kernel)
set_option maxRecDepth 20000 in
theorem st_r5 : GoodIn lw_tbl wsL_law_r5 := goodIn_r _ [120, 121, 123, 125, 127, 129, 131, 206, 207, 208, 209, 42, 212, 213, 214, 215, 216, 217, 219, 220, 221, 222, 91, 323] (by decide +kernel) (by decide +kernel)
set_option maxRecDepth 20000 in
theorem st_r6 : GoodIn lw_tbl wsL_law_r6 := goodIn_r _ [324, 14, 325, 326, 327, 328, 329, 330, 258, 259, 260, 261, 107, 36, 43, 39, 119, 115, 117, 122, 124, 126, 128, 130] (by decide +kernel) (by decide +kernel)
set_option maxRecDepth 20000 in
theorem st_r7 : GoodIn lw_tbl wsL_law_r7 := goodIn_r _ [132, 109, 92, 113, 231, 262, 263, 264, 265, 266, 267, 268, 269, 270, 272, 3, 273, 37, 274, 275, 276, 277, 278, 280] (by decide +kernel) (by decide +kernel)
set_option maxRecDepth 20000 in
theorem st_r8 : GoodIn lw_tbl wsL_law_r8 := goodIn_r _ [4, 281, 282, 283, 284, 285, 286, 287, 288, 289, 290, 291, 292, 293, 54, 294, 295, 296, 297, 44, 298, 299, 300, 302] (by decide +kernel) (by decide +kernel)
set_option maxRecDepth 20000 in
theorem st_r9 : GoodIn lw_tbl wsL_law_r9 := goodIn_r _ [303, 304, 305, 331, 332, 333, 334, 335, 336, 337, 224, 338, 339, 340, 341, 342, 343, 344, 345, 346, 347, 349, 6, 350] (by decide +kernel) (by decide +kernel)
set_option maxRecDepth 20000 in
theorem st_r10 : GoodIn lw_tbl wsL_law_r10 := goodIn_r _ [225, 226, 41, 314, 351, 353, 7, 354, 355, 357, 8, 358, 359, 361, 9, 362, 363, 364, 365, 366, 368, 369, 370, 371] (by decide +kernel) (by decide +kernel)
set_option maxRecDepth 20000 in
theorem st_r11 : GoodIn lw_tbl wsL_law_r11 := goodIn_r _ [373, 374, 375, 376, 377, 378, 379, 383, 385, 380, 381, 382, 387, 388, 389, 390, 392, 393, 394, 395, 310, 311, 312, 313] (by decide +kernel) (by decide +kernel)
set_option maxRecDepth 20000 in
theorem st_r12 : GoodIn lw_tbl wsL_law_r12 := goodIn_r _ [396, 397, 398, 399, 400, 401, 402, 403, 404, 405, 406, 407, 408, 409, 410, 411, 412, 413, 414, 415, 416, 417, 418, 419] (by decide +kernel) (by decide +kernel)
set_option maxRecDepth 20000 in
theorem st_r13 : GoodIn lw_tbl wsL_law_r13 := goodIn_r _ [420, 421, 422, 423, 424, 425, 426, 427, 428, 429, 430, 431, 432, 433, 434, 435, 436, 46, 437, 439, 10, 440, 445, 446] (by decide +kernel) (by decide +kernel)
set_option maxRecDepth 20000 in
theorem st_r14 : GoodIn lw_tbl wsL_law_r14 := goodIn_r _ [447, 441, 442, 443, 444, 448, 449, 450, 451, 452, 454, 11, 455, 456, 457, 458, 459, 462, 463, 464, 465, 466, 467, 468] (by decide +kernel) (by decide +kernel)
set_option maxRecDepth 20000 in
theorem st_r15 : GoodIn lw_tbl wsL_law_r15 := goodIn_r _ [469, 470, 472, 12, 473, 474, 475, 476, 477, 478, 479, 480, 481, 482, 484, 13, 485, 486, 487, 316, 317, 318, 319, 321] (by decide +kernel) (by decide +kernel)
set_option maxRecDepth 20000 in
theorem st_r16 : GoodIn lw_tbl wsL_law_r16 := goodIn_r _ [5, 322, 306, 307, 308, 309, 47, 53, 49, 51, 315, 503, 504, 505, 506, 507, 508, 509, 94, 96, 510, 511, 512, 513] (by decide +kernel) (by decide +kernel)
set_option maxRecDepth 20000 in
theorem st_r17 : GoodIn lw_tbl wsL_law_r17 := goodIn_r _ [111, 488, 489, 490, 491, 492, 493, 494, 495, 496, 497, 498, 56, 499, 500, 501, 502, 514, 515, 516, 517, 518, 519, 520] (by decide +kernel) (by decide +kernel)
set_option maxRecDepth 20000 in
theorem st_r18 : GoodIn lw_tbl wsL_law_r18 := goodIn_r _ [521, 522, 523, 524, 525, 526, 527, 528, 529, 530, 531, 532, 533, 534, 535, 536, 537, 538, 539, 540, 541, 542, 543, 544] (by decide +kernel) (by decide +kernel)
set_option maxRecDepth 20000 in
theorem st_r19 : GoodIn lw_tbl wsL_law_r19 := goodIn_r _ [545] (by decide +kernel) (by decide +kernel)
set_option maxRecDepth 20000 in
theorem st_gX0 : GoodIn lw_tbl wsX00 := goodIn_r _ [57, 59, 61, 63, 65, 67, 69, 71, 73] (by decide +kernel) (by decide +kernel)
theorem st_inX0 : ∀ w ∈ u_ws RX0 TX0 9, w ∈ lw_tbl := fun w h => (st_gX0 w h).1
set_option maxRecDepth 20000 in
theorem st_gX1 : GoodIn lw_tbl wsX10 := goodIn_r _ [133, 135, 137, 139, 141, 143, 145, 147, 149, 151, 153, 155, 157, 159, 161] (by decide +kernel) (by decide +kernel)
theorem st_inX1 : ∀ w ∈ u_ws RX1 TX1 15, w ∈ lw_tbl := fun w h => (st_gX1 w h).1
set_option maxRecDepth 20000 in
theorem st_gX2 : GoodIn lw_tbl wsX20 := goodIn_r _ [97, 99, 101] (by decide +kernel) (by decide +kernel)
theorem st_inX2 : ∀ w ∈ u_ws RX2 TX2 3, w ∈ lw_tbl := fun w h => (st_gX2 w h).1
set_option maxRecDepth 20000 in
theorem st_gX3 : GoodIn lw_tbl wsX30 := goodIn_r _ [234, 236, 238, 240, 242, 244, 246, 248, 250, 252, 254] (by decide +kernel) (by decide +kernel)
theorem st_inX3 : ∀ w ∈ u_ws RX3 TX3 11, w ∈ lw_tbl := fun w h => (st_gX3 w h).1
theorem st_gnil : GoodIn lw_tbl ([] : List Cond) := fun w h => absurd h List.not_mem_nil
theorem wsL_good : GoodIn lw_tbl wsL_law := by
  unfold wsL_law
  exact goodIn_app (goodIn_app (goodIn_app (goodIn_app (goodIn_app (goodIn_app st_r1 (goodIn_app st_r2 (goodIn_app st_r3 (goodIn_app st_r4 (goodIn_app st_r5 (goodIn_app st_r6 (goodIn_app st_r7 (goodIn_app st_r8 (goodIn_app st_r9 (goodIn_app st_r10 (goodIn_app st_r11 (goodIn_app st_r12 (goodIn_app st_r13 (goodIn_app st_r14 (goodIn_app st_r15 (goodIn_app st_r16 (goodIn_app st_r17 (goodIn_app st_r18 st_r19)))))))))))))))))) st_gX3) st_gX0) st_gX1) st_gX2) st_gnil
theorem NW_of {args : Array Value} {s : State} (h : ∀ w ∈ lw_tbl, w.before args s = true) : NW s := ⟨va_Nw.of rfl (h (.methodLinkNest RX0 40 yX3_copyRow RX3) (List.mem_of_getElem? (i := 210) (by decide +kernel))), va_Nw.of rfl (h (.methodLinkNest RX0 44 yX3_isLetter RX3) (List.mem_of_getElem? (i := 184) (by decide +kernel))), va_Nw.of rfl (h (.methodLinkNest RX0 59 yX3_put RX3) (List.mem_of_getElem? (i := 191) (by decide +kernel))), va_Nw.of rfl (h (.methodLinkNest RX0 63 yX3_at RX3) (List.mem_of_getElem? (i := 218) (by decide +kernel))), va_Nw.of rfl (h (.methodLinkNest RX1 17 yX0_init RX3) (List.mem_of_getElem? (i := 84) (by decide +kernel))), va_Nw.of rfl (h (.methodLinkNest RX1 24 yX2_init RX3) (List.mem_of_getElem? (i := 87) (by decide +kernel))), va_Nw.of rfl (h (.methodLinkNest RX1 32 yX3_copyRow RX3) (List.mem_of_getElem? (i := 367) (by decide +kernel))), va_Nw.of rfl (h (.methodLinkNest RX1 77 yX3_at RX3) (List.mem_of_getElem? (i := 211) (by decide +kernel))), va_Nw.of rfl (h (.methodLinkNest RX1 88 yX3_put RX3) (List.mem_of_getElem? (i := 391) (by decide +kernel))), va_Nw.of rfl (h (.methodLinkNest RX1 96 yX3_limited RX3) (List.mem_of_getElem? (i := 301) (by decide +kernel))), va_Nw.of rfl (h (.methodLinkNest RX2 22 yX3_copyRow RX3) (List.mem_of_getElem? (i := 372) (by decide +kernel))), va_Nw.of rfl (h (.methodLinkNest RX2 26 yX3_at RX3) (List.mem_of_getElem? (i := 460) (by decide +kernel))), va_Nw.of rfl (h (.methodLinkNest RX2 30 yX3_put RX3) (List.mem_of_getElem? (i := 461) (by decide +kernel))), va_Nw.of rfl (h (.methodLinkNest RX3 15 yX0_init RX3) (List.mem_of_getElem? (i := 31) (by decide +kernel))), va_Nw.of rfl (h (.methodLinkNest RX3 22 yX1_init RX3) (List.mem_of_getElem? (i := 79) (by decide +kernel))), trivial⟩
theorem K_arr {args : Array Value} {s : State} {ty : FieldType} (h : (Cond.arrayClass ty).before args s = true) : ∃ cA : ClassId, ArrOfT s cA ty ∧ s.vm.findClass ("[" ++ ty.toString) = some cA := by
  obtain ⟨cA, kA, comp, h1, h2, h3⟩ := Cond.arrayClass_spec h
  exact ⟨cA, fun n z => ⟨fun k h => (by cases h), kA, h2, comp, h3⟩, h1⟩
theorem K_of {args : Array Value} {s : State} (h : ∀ w ∈ lw_tbl, w.before args s = true) : ∃ (dC : Nat → ClassId) (dI : Nat → Nat → Nat) (cI cZ cO : ClassId), va_K (dC, dI) vwCl (tyA cI cZ cO) s ∧ va_AO RX1 s := by
  obtain ⟨c0, i0, k0⟩ := u_known (C := RX0) (T := TX0) (N := 9) (n := 9) h st_inX0 (h (.instantiable RX0 9) (List.mem_of_getElem? (i := 30) (by decide +kernel)))
  obtain ⟨c1, i1, k1⟩ := u_known (C := RX1) (T := TX1) (N := 15) (n := 15) h st_inX1 (h (.instantiable RX1 15) (List.mem_of_getElem? (i := 78) (by decide +kernel)))
  obtain ⟨c2, i2, k2⟩ := u_known (C := RX2) (T := TX2) (N := 3) (n := 3) h st_inX2 (h (.instantiable RX2 3) (List.mem_of_getElem? (i := 86) (by decide +kernel)))
  obtain ⟨c3, i3, k3⟩ := u_known (C := RX3) (T := TX3) (N := 11) (n := 11) h st_inX3 (h (.instantiable RX3 11) (List.mem_of_getElem? (i := 22) (by decide +kernel)))
  obtain ⟨cI, aI, fI⟩ := K_arr (ty := .int) (h (.arrayClass .int) (List.mem_of_getElem? (i := 76) (by decide +kernel)))
  obtain ⟨cZ, aZ, fZ⟩ := K_arr (ty := .boolean) (h (.arrayClass .boolean) (List.mem_of_getElem? (i := 257) (by decide +kernel)))
  have hAO : (Cond.arrayOver (.object RX1)).before args s = true := (h (.arrayOver (.object RX1)) (List.mem_of_getElem? (i := 164) (by decide +kernel)))
  obtain ⟨comp, cO, kO, g1, g2, g3, g4, g5⟩ := Cond.arrayOver_spec hAO
  refine ⟨fun k => if k = 0 then c0 else if k = 1 then c1 else if k = 2 then c2 else c3, fun k => if k = 0 then i0 else if k = 1 then i1 else if k = 2 then i2 else i3, cI, cZ, cO, ⟨?_, ?_⟩, va_AO.of hAO⟩
  · intro k q hq
    match k, hq with
    | 0, hq => cases hq; exact k0
    | 1, hq => cases hq; exact k1
    | 2, hq => cases hq; exact k2
    | 3, hq => cases hq; exact k3
    | k + 4, hq => simp [vwCl] at hq
  · intro k q hq
    match k, hq with
    | 0, hq => cases hq; exact ⟨aI, fI⟩
    | 1, hq => cases hq; exact ⟨aZ, fZ⟩
    | 2, hq => cases hq; exact ⟨fun n z => ⟨fun k h => (by cases h), kO, g3, comp, g4⟩, kO, comp, g3, g4, g1, g5⟩
    | k + 3, hq => simp [tyA] at hq
theorem stA_of {s : State} {args : Array Value} {A : Nat → Prop} {n : String} {f : Nat → Int32} (hl : (Cond.laysStatic "Teleprompter" n "[I").before args s = true) (hini : (Cond.initialized "Teleprompter").before args s = true) (harr : (Cond.arrayOf (Term.static "Teleprompter" n "[I") .int).before args s = true) (hlen : (Cond.eq (Term.length (Term.static "Teleprompter" n "[I")) (Term.int 9)).before args s = true) (hel : ∀ j : Nat, j < 9 → (Cond.eq (Term.elem (Term.static "Teleprompter" n "[I") (Term.int (Int32.ofNat j))) (Term.int (f j))).before args s = true) (hA : ∀ a : Nat, a < s.heap.size → ¬ A a) : ∃ t : Nat, stA n t f A s := by
  obtain ⟨t, ht, hT⟩ := va_Tof (N := 9) (f := fun j => .int (f j)) (A := A) (by decide) harr (va_eqt hlen) (fun j hj => va_eqt (hel j hj)) hA
  exact ⟨t, va_Zof hl hini ht hA, hT⟩
theorem stA_V {nm : String} {t : Nat} {f : Nat → Int32} {A B : Nat → Prop} {s U : State} {H : Heap} {locs : List Loc} (h : stA nm t f A s) (hS : va_S A s.heap H locs) (hB : ∀ q, B q → A q) (hU : U.heap = H) (hW : s.WarmedH U.vm) : va_Z "Teleprompter" nm "[I" (.ref t) B U U.heap ∧ va_T .int t 9 (fun j => .int (f j)) B U U.heap := by
  rw [hU]
  exact ⟨((h.1.kept (fun a ha hn => hS.2.1 a ha hn)).narrow hB).moved hW.alike, ((h.2.kept (fun a ha hn => hS.2.1 a ha hn)).narrow hB).moved hW.alike⟩
theorem start_st {s : State} {args : Array Value} {A : Nat → Prop} (h : ∀ w ∈ lw_tbl, w.before args s = true) (hgv : (Jvm.Cond.and given_1 narrow_1).before args s = true) (hA : ∀ a : Nat, a < s.heap.size → ¬ A a) : ∃ tL tM tF : Nat, stA "LEAST" tL F_LEAST A s ∧ stA "MOST" tM F_MOST A s ∧ stA "FIRST" tF F_FIRST A s := by
  have hs := flat_of_before _ hgv
  obtain ⟨tL, zL⟩ := stA_of (A := A) (n := "LEAST") (f := F_LEAST) (h (.laysStatic "Teleprompter" "LEAST" "[I") (List.mem_of_getElem? (i := 384) (by decide +kernel))) (h (.initialized "Teleprompter") (List.mem_of_getElem? (i := 15) (by decide +kernel))) (hs _ (by decide +kernel)) (hs _ (by decide +kernel)) (fun j hj => by rcases (show j = 0 ∨ j = 1 ∨ j = 2 ∨ j = 3 ∨ j = 4 ∨ j = 5 ∨ j = 6 ∨ j = 7 ∨ j = 8 by omega) with rfl | rfl | rfl | rfl | rfl | rfl | rfl | rfl | rfl <;> exact hs _ (by decide +kernel)) hA
  obtain ⟨tM, zM⟩ := stA_of (A := A) (n := "MOST") (f := F_MOST) (h (.laysStatic "Teleprompter" "MOST" "[I") (List.mem_of_getElem? (i := 386) (by decide +kernel))) (h (.initialized "Teleprompter") (List.mem_of_getElem? (i := 15) (by decide +kernel))) (hs _ (by decide +kernel)) (hs _ (by decide +kernel)) (fun j hj => by rcases (show j = 0 ∨ j = 1 ∨ j = 2 ∨ j = 3 ∨ j = 4 ∨ j = 5 ∨ j = 6 ∨ j = 7 ∨ j = 8 by omega) with rfl | rfl | rfl | rfl | rfl | rfl | rfl | rfl | rfl <;> exact hs _ (by decide +kernel)) hA
  obtain ⟨tF, zF⟩ := stA_of (A := A) (n := "FIRST") (f := F_FIRST) (h (.laysStatic "Teleprompter" "FIRST" "[I") (List.mem_of_getElem? (i := 166) (by decide +kernel))) (h (.initialized "Teleprompter") (List.mem_of_getElem? (i := 15) (by decide +kernel))) (hs _ (by decide +kernel)) (hs _ (by decide +kernel)) (fun j hj => by rcases (show j = 0 ∨ j = 1 ∨ j = 2 ∨ j = 3 ∨ j = 4 ∨ j = 5 ∨ j = 6 ∨ j = 7 ∨ j = 8 by omega) with rfl | rfl | rfl | rfl | rfl | rfl | rfl | rfl | rfl <;> exact hs _ (by decide +kernel)) hA
  exact ⟨tL, tM, tF, zL, zM, zF⟩
