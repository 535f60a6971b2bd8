set_option maxRecDepth 20000 in
theorem st_r1 : GoodIn lw_tbl wsL_law_r1 := goodIn_r _ [52, 53, 45, 579, 580, 51, 54, 55, 56, 57, 58, 59, 107, 254, 60, 61, 46, 258, 108, 109, 47, 259, 260, 261] (by decide +kernel) (by decide +kernel)
set_option maxRecDepth 20000 in
theorem st_r2 : GoodIn lw_tbl wsL_law_r2 := goodIn_r _ [263, 288, 264, 196, 136, 63, 64, 65, 76, 79, 81, 83, 86, 111, 112, 113, 135, 114, 137, 116, 117, 48, 139, 141] (by decide +kernel) (by decide +kernel)
set_option maxRecDepth 20000 in
theorem st_r3 : GoodIn lw_tbl wsL_law_r3 := goodIn_r _ [119, 120, 121, 124, 126, 198, 199, 200, 201, 202, 49, 203, 204, 206, 205, 50, 207, 208, 209, 210, 66, 69, 71, 211] (by decide +kernel) (by decide +kernel)
set_option maxRecDepth 20000 in
theorem st_r4 : GoodIn lw_tbl wsL_law_r4 := goodIn_r _ [212, 213, 214, 216, 217, 218, 220, 0, 221, 223, 224, 225, 227, 1, 228, 229, 231, 2, 232, 233, 234, 235, 236, 143] (by decide +kernel) (by decide +kernel)
set_option maxRecDepth 20000 in
theorem st_r5 : GoodIn lw_tbl wsL_law_r5 := goodIn_r _ [145, 147, 149, 151, 152, 154, 156, 158, 160, 162, 237, 238, 239, 240, 73, 243, 244, 245, 246, 247, 248, 250, 251, 252] (by decide +kernel) (by decide +kernel)
set_option maxRecDepth 20000 in
theorem st_r6 : GoodIn lw_tbl wsL_law_r6 := goodIn_r _ [253, 122, 581, 582, 583, 584, 589, 590, 592, 594, 596, 597, 598, 604, 605, 606, 607, 585, 587, 16, 588, 599, 289, 290] (by decide +kernel) (by decide +kernel)
set_option maxRecDepth 20000 in
theorem st_r7 : GoodIn lw_tbl wsL_law_r7 := goodIn_r _ [291, 292, 138, 67, 293, 295, 3, 296, 255, 256, 257, 72, 297, 298, 300, 4, 301, 262, 302, 304, 5, 305, 306, 308] (by decide +kernel) (by decide +kernel)
set_option maxRecDepth 20000 in
theorem st_r8 : GoodIn lw_tbl wsL_law_r8 := goodIn_r _ [6, 309, 310, 311, 312, 313, 315, 316, 317, 318, 647, 648, 649, 650, 600, 601, 602, 651, 653, 17, 654, 603, 595, 655] (by decide +kernel) (by decide +kernel)
set_option maxRecDepth 20000 in
theorem st_r9 : GoodIn lw_tbl wsL_law_r9 := goodIn_r _ [657, 18, 658, 659, 661, 19, 662, 663, 664, 665, 666, 667, 668, 669, 671, 20, 672, 673, 675, 21, 676, 677, 679, 22] (by decide +kernel) (by decide +kernel)
set_option maxRecDepth 20000 in
theorem st_r10 : GoodIn lw_tbl wsL_law_r10 := goodIn_r _ [680, 591, 320, 321, 322, 323, 327, 329, 324, 325, 326, 331, 332, 333, 334, 336, 337, 338, 339, 75, 340, 341, 342, 344] (by decide +kernel) (by decide +kernel)
set_option maxRecDepth 20000 in
theorem st_r11 : GoodIn lw_tbl wsL_law_r11 := goodIn_r _ [345, 346, 693, 694, 695, 696, 697, 698, 699, 700, 702, 23, 703, 704, 706, 24, 707, 347, 348, 349, 350, 146, 351, 352] (by decide +kernel) (by decide +kernel)
set_option maxRecDepth 20000 in
theorem st_r12 : GoodIn lw_tbl wsL_law_r12 := goodIn_r _ [353, 354, 355, 356, 357, 358, 359, 68, 360, 77, 361, 363, 7, 364, 369, 370, 371, 365, 366, 367, 368, 372, 373, 374] (by decide +kernel) (by decide +kernel)
set_option maxRecDepth 20000 in
theorem st_r13 : GoodIn lw_tbl wsL_law_r13 := goodIn_r _ [375, 376, 378, 8, 379, 380, 381, 382, 383, 386, 387, 388, 389, 390, 391, 392, 393, 394, 396, 9, 397, 708, 709, 710] (by decide +kernel) (by decide +kernel)
set_option maxRecDepth 20000 in
theorem st_r14 : GoodIn lw_tbl wsL_law_r14 := goodIn_r _ [711, 712, 714, 25, 715, 716, 718, 26, 719, 720, 722, 27, 723, 724, 726, 28, 727, 728, 730, 29, 731, 732, 734, 30] (by decide +kernel) (by decide +kernel)
set_option maxRecDepth 20000 in
theorem st_r15 : GoodIn lw_tbl wsL_law_r15 := goodIn_r _ [735, 736, 738, 31, 739, 740, 742, 32, 743, 398, 399, 400, 401, 402, 403, 404, 405, 406, 408, 10, 409, 410, 411, 412] (by decide +kernel) (by decide +kernel)
set_option maxRecDepth 20000 in
theorem st_r16 : GoodIn lw_tbl wsL_law_r16 := goodIn_r _ [413, 414, 416, 11, 417, 418, 419, 420, 421, 422, 423, 424, 425, 427, 12, 428, 85, 429, 430, 431, 432, 433, 434, 435] (by decide +kernel) (by decide +kernel)
set_option maxRecDepth 20000 in
theorem st_r17 : GoodIn lw_tbl wsL_law_r17 := goodIn_r _ [436, 437, 439, 13, 440, 744, 745, 746, 747, 748, 750, 33, 751, 752, 754, 34, 755, 756, 758, 35, 759, 760, 762, 36] (by decide +kernel) (by decide +kernel)
set_option maxRecDepth 20000 in
theorem st_r18 : GoodIn lw_tbl wsL_law_r18 := goodIn_r _ [763, 764, 766, 37, 767, 441, 442, 443, 444, 445, 446, 447, 448, 449, 768, 769, 770, 771, 772, 774, 38, 775, 450, 451] (by decide +kernel) (by decide +kernel)
set_option maxRecDepth 20000 in
theorem st_r19 : GoodIn lw_tbl wsL_law_r19 := goodIn_r _ [452, 453, 454, 455, 456, 457, 458, 459, 460, 461, 462, 463, 464, 465, 776, 777, 778, 779, 780, 782, 39, 783, 466, 467] (by decide +kernel) (by decide +kernel)
set_option maxRecDepth 20000 in
theorem st_r20 : GoodIn lw_tbl wsL_law_r20 := goodIn_r _ [468, 469, 784, 785, 786, 787, 470, 471, 472, 473, 474, 681, 682, 683, 684, 475, 476, 477, 478, 685, 686, 687, 688, 479] (by decide +kernel) (by decide +kernel)
set_option maxRecDepth 20000 in
theorem st_r21 : GoodIn lw_tbl wsL_law_r21 := goodIn_r _ [480, 481, 482, 689, 690, 691, 692, 483, 484, 485, 486, 74, 70, 150, 148, 153, 155, 157, 159, 161, 163, 140, 123, 144] (by decide +kernel) (by decide +kernel)
set_option maxRecDepth 20000 in
theorem st_r22 : GoodIn lw_tbl wsL_law_r22 := goodIn_r _ [487, 488, 489, 490, 491, 492, 493, 494, 495, 788, 789, 790, 791, 792, 794, 40, 795, 496, 497, 498, 499, 796, 797, 798] (by decide +kernel) (by decide +kernel)
set_option maxRecDepth 20000 in
theorem st_r23 : GoodIn lw_tbl wsL_law_r23 := goodIn_r _ [799, 500, 501, 502, 503, 78, 84, 80, 82, 504, 800, 801, 802, 803, 505, 506, 507, 508, 87, 509, 510, 511, 512, 804] (by decide +kernel) (by decide +kernel)
set_option maxRecDepth 20000 in
theorem st_r24 : GoodIn lw_tbl wsL_law_r24 := goodIn_r _ [805, 806, 807, 513, 514, 515, 516, 142, 808, 809, 810, 811, 517, 518, 519, 520, 125, 127, 812, 813, 814, 815, 521, 522] (by decide +kernel) (by decide +kernel)
set_option maxRecDepth 20000 in
theorem st_r25 : GoodIn lw_tbl wsL_law_r25 := goodIn_r _ [523, 524, 525, 816, 817, 818, 819, 526, 527, 528, 529, 530, 531, 820, 821, 822, 823, 532, 533, 534, 535, 536, 537, 538] (by decide +kernel) (by decide +kernel)
set_option maxRecDepth 20000 in
theorem st_r26 : GoodIn lw_tbl wsL_law_r26 := goodIn_r _ [539, 540, 542, 14, 543, 544, 546, 15, 547, 824, 825, 826, 827, 828, 830, 41, 831, 548, 549, 550, 551, 832, 833, 834] (by decide +kernel) (by decide +kernel)
set_option maxRecDepth 20000 in
theorem st_r27 : GoodIn lw_tbl wsL_law_r27 := goodIn_r _ [835, 552, 553, 554, 555, 556, 557, 558, 559, 836, 837, 838, 839, 560, 561, 562, 563, 564, 565, 566, 567, 568, 569, 570] (by decide +kernel) (by decide +kernel)
set_option maxRecDepth 20000 in
theorem st_r28 : GoodIn lw_tbl wsL_law_r28 := goodIn_r _ [840, 841, 842, 843, 844, 846, 42, 847, 848, 850, 43, 851, 571, 572, 573, 574, 852, 853, 854, 855, 593, 856, 857, 858] (by decide +kernel) (by decide +kernel)
set_option maxRecDepth 20000 in
theorem st_r29 : GoodIn lw_tbl wsL_law_r29 := goodIn_r _ [575, 576, 577, 578, 859, 860, 861, 862] (by decide +kernel) (by decide +kernel)
set_option maxRecDepth 20000 in
theorem st_gX0 : GoodIn lw_tbl wsX00 := goodIn_r _ [88, 90, 92, 94, 96, 98, 100, 102, 104] (by decide +kernel) (by decide +kernel)
theorem st_inX0 : ∀ w ∈ u_ws RX0 TX0 9, w ∈ lw_tbl := fun w h => (st_gX0 w h).1
set_option maxRecDepth 20000 in
theorem st_gX1 : GoodIn lw_tbl wsX10 := goodIn_r _ [164, 166, 168, 170, 172, 174, 176, 178, 180, 182, 184, 186, 188, 190, 192] (by decide +kernel) (by decide +kernel)
theorem st_inX1 : ∀ w ∈ u_ws RX1 TX1 15, w ∈ lw_tbl := fun w h => (st_gX1 w h).1
set_option maxRecDepth 20000 in
theorem st_gX2 : GoodIn lw_tbl wsX20 := goodIn_r _ [128, 130, 132] (by decide +kernel) (by decide +kernel)
theorem st_inX2 : ∀ w ∈ u_ws RX2 TX2 3, w ∈ lw_tbl := fun w h => (st_gX2 w h).1
set_option maxRecDepth 20000 in
theorem st_gX3 : GoodIn lw_tbl wsX30 := goodIn_r _ [265, 267, 269, 271, 273, 275, 277, 279, 281, 283, 285] (by decide +kernel) (by decide +kernel)
theorem st_inX3 : ∀ w ∈ u_ws RX3 TX3 11, w ∈ lw_tbl := fun w h => (st_gX3 w h).1
set_option maxRecDepth 20000 in
theorem st_gX4 : GoodIn lw_tbl wsX40 := goodIn_r _ [608, 610, 612, 614, 616, 618, 620, 622, 624, 626, 628, 630, 632, 634, 636, 638, 640, 642, 644] (by decide +kernel) (by decide +kernel)
theorem st_inX4 : ∀ w ∈ u_ws RX4 TX4 19, w ∈ lw_tbl := fun w h => (st_gX4 w h).1
theorem st_gnil : GoodIn lw_tbl ([] : List Cond) := fun w h => absurd h List.not_mem_nil
theorem wsL_good : GoodIn lw_tbl wsL_law := by
  unfold wsL_law
  exact goodIn_app (goodIn_app (goodIn_app (goodIn_app (goodIn_app (goodIn_app (goodIn_app st_r1 (goodIn_app st_r2 (goodIn_app st_r3 (goodIn_app st_r4 (goodIn_app st_r5 (goodIn_app st_r6 (goodIn_app st_r7 (goodIn_app st_r8 (goodIn_app st_r9 (goodIn_app st_r10 (goodIn_app st_r11 (goodIn_app st_r12 (goodIn_app st_r13 (goodIn_app st_r14 (goodIn_app st_r15 (goodIn_app st_r16 (goodIn_app st_r17 (goodIn_app st_r18 (goodIn_app st_r19 (goodIn_app st_r20 (goodIn_app st_r21 (goodIn_app st_r22 (goodIn_app st_r23 (goodIn_app st_r24 (goodIn_app st_r25 (goodIn_app st_r26 (goodIn_app st_r27 (goodIn_app st_r28 st_r29)))))))))))))))))))))))))))) st_gX3) st_gX4) st_gX0) st_gX1) st_gX2) st_gnil
theorem NW_of {args : Array Value} {s : State} (h : ∀ w ∈ lw_tbl, w.before args s = true) : NW s := ⟨va_Nw.of rfl (h (.methodLinkNest RX0 40 yX3_copyRow RX3) (List.mem_of_getElem? (i := 241) (by decide +kernel))), va_Nw.of rfl (h (.methodLinkNest RX0 44 yX3_isLetter RX3) (List.mem_of_getElem? (i := 215) (by decide +kernel))), va_Nw.of rfl (h (.methodLinkNest RX0 59 yX3_put RX3) (List.mem_of_getElem? (i := 222) (by decide +kernel))), va_Nw.of rfl (h (.methodLinkNest RX0 63 yX3_at RX3) (List.mem_of_getElem? (i := 249) (by decide +kernel))), va_Nw.of rfl (h (.methodLinkNest RX1 17 yX0_init RX3) (List.mem_of_getElem? (i := 115) (by decide +kernel))), va_Nw.of rfl (h (.methodLinkNest RX1 24 yX2_init RX3) (List.mem_of_getElem? (i := 118) (by decide +kernel))), va_Nw.of rfl (h (.methodLinkNest RX1 32 yX3_copyRow RX3) (List.mem_of_getElem? (i := 314) (by decide +kernel))), va_Nw.of rfl (h (.methodLinkNest RX1 77 yX3_at RX3) (List.mem_of_getElem? (i := 242) (by decide +kernel))), va_Nw.of rfl (h (.methodLinkNest RX1 88 yX3_put RX3) (List.mem_of_getElem? (i := 335) (by decide +kernel))), va_Nw.of rfl (h (.methodLinkNest RX1 96 yX3_limited RX3) (List.mem_of_getElem? (i := 343) (by decide +kernel))), va_Nw.of rfl (h (.methodLinkNest RX2 22 yX3_copyRow RX3) (List.mem_of_getElem? (i := 319) (by decide +kernel))), va_Nw.of rfl (h (.methodLinkNest RX2 26 yX3_at RX3) (List.mem_of_getElem? (i := 384) (by decide +kernel))), va_Nw.of rfl (h (.methodLinkNest RX2 30 yX3_put RX3) (List.mem_of_getElem? (i := 385) (by decide +kernel))), va_Nw.of rfl (h (.methodLinkNest RX3 15 yX0_init RX3) (List.mem_of_getElem? (i := 62) (by decide +kernel))), va_Nw.of rfl (h (.methodLinkNest RX3 22 yX1_init RX3) (List.mem_of_getElem? (i := 110) (by decide +kernel))), trivial⟩
theorem K_arr {args : Array Value} {s : State} {ty : FieldType} (h : (Cond.arrayClass ty).before args s = true) : ∃ cA : ClassId, ArrOfT s cA ty ∧ s.vm.findClass ("[" ++ ty.toString) = some cA := by
  obtain ⟨cA, kA, comp, h1, h2, h3⟩ := Cond.arrayClass_spec h
  exact ⟨cA, fun n z => ⟨fun k h => (by cases h), kA, h2, comp, h3⟩, h1⟩
theorem K_of {args : Array Value} {s : State} (h : ∀ w ∈ lw_tbl, w.before args s = true) : ∃ (dC : Nat → ClassId) (dI : Nat → Nat → Nat) (cI cZ cO : ClassId), va_K (dC, dI) vwCl (tyA cI cZ cO) s ∧ va_AO RX1 s := by
  obtain ⟨c0, i0, k0⟩ := u_known (C := RX0) (T := TX0) (N := 9) (n := 9) h st_inX0 (h (.instantiable RX0 9) (List.mem_of_getElem? (i := 61) (by decide +kernel)))
  obtain ⟨c1, i1, k1⟩ := u_known (C := RX1) (T := TX1) (N := 15) (n := 15) h st_inX1 (h (.instantiable RX1 15) (List.mem_of_getElem? (i := 109) (by decide +kernel)))
  obtain ⟨c2, i2, k2⟩ := u_known (C := RX2) (T := TX2) (N := 3) (n := 3) h st_inX2 (h (.instantiable RX2 3) (List.mem_of_getElem? (i := 117) (by decide +kernel)))
  obtain ⟨c3, i3, k3⟩ := u_known (C := RX3) (T := TX3) (N := 11) (n := 11) h st_inX3 (h (.instantiable RX3 11) (List.mem_of_getElem? (i := 53) (by decide +kernel)))
  obtain ⟨c4, i4, k4⟩ := u_known (C := RX4) (T := TX4) (N := 19) (n := 19) h st_inX4 (h (.instantiable RX4 19) (List.mem_of_getElem? (i := 580) (by decide +kernel)))
  obtain ⟨cI, aI, fI⟩ := K_arr (ty := .int) (h (.arrayClass .int) (List.mem_of_getElem? (i := 107) (by decide +kernel)))
  obtain ⟨cZ, aZ, fZ⟩ := K_arr (ty := .boolean) (h (.arrayClass .boolean) (List.mem_of_getElem? (i := 288) (by decide +kernel)))
  have hAO : (Cond.arrayOver (.object RX1)).before args s = true := (h (.arrayOver (.object RX1)) (List.mem_of_getElem? (i := 195) (by decide +kernel)))
  obtain ⟨comp, cO, kO, g1, g2, g3, g4, g5⟩ := Cond.arrayOver_spec hAO
  refine ⟨fun k => if k = 0 then c0 else if k = 1 then c1 else if k = 2 then c2 else if k = 3 then c3 else c4, fun k => if k = 0 then i0 else if k = 1 then i1 else if k = 2 then i2 else if k = 3 then i3 else i4, cI, cZ, cO, ⟨?_, ?_⟩, va_AO.of hAO⟩
  · intro k q hq
    match k, hq with
    | 0, hq => cases hq; exact k0
    | 1, hq => cases hq; exact k1
    | 2, hq => cases hq; exact k2
    | 3, hq => cases hq; exact k3
    | 4, hq => cases hq; exact k4
    | k + 5, hq => simp [vwCl] at hq
  · intro k q hq
    match k, hq with
    | 0, hq => cases hq; exact ⟨aI, fI⟩
    | 1, hq => cases hq; exact ⟨aZ, fZ⟩
    | 2, hq => cases hq; exact ⟨fun n z => ⟨fun k h => (by cases h), kO, g3, comp, g4⟩, kO, comp, g3, g4, g1, g5⟩
    | k + 3, hq => simp [tyA] at hq
theorem stA_of {s : State} {args : Array Value} {A : Nat → Prop} {n : String} {f : Nat → Int32} (hl : (Cond.laysStatic "Teleprompter" n "[I").before args s = true) (hini : (Cond.initialized "Teleprompter").before args s = true) (harr : (Cond.arrayOf (Term.static "Teleprompter" n "[I") .int).before args s = true) (hlen : (Cond.eq (Term.length (Term.static "Teleprompter" n "[I")) (Term.int 9)).before args s = true) (hel : ∀ j : Nat, j < 9 → (Cond.eq (Term.elem (Term.static "Teleprompter" n "[I") (Term.int (Int32.ofNat j))) (Term.int (f j))).before args s = true) (hA : ∀ a : Nat, a < s.heap.size → ¬ A a) : ∃ t : Nat, stA n t f A s := by
  obtain ⟨t, ht, hT⟩ := va_Tof (N := 9) (f := fun j => .int (f j)) (A := A) (by decide) harr (va_eqt hlen) (fun j hj => va_eqt (hel j hj)) hA
  exact ⟨t, va_Zof hl hini ht hA, hT⟩
theorem stA_V {nm : String} {t : Nat} {f : Nat → Int32} {A B : Nat → Prop} {s U : State} {H : Heap} {locs : List Loc} (h : stA nm t f A s) (hS : va_S A s.heap H locs) (hB : ∀ q, B q → A q) (hU : U.heap = H) (hW : s.WarmedH U.vm) : va_Z "Teleprompter" nm "[I" (.ref t) B U U.heap ∧ va_T .int t 9 (fun j => .int (f j)) B U U.heap := by
  rw [hU]
  exact ⟨((h.1.kept (fun a ha hn => hS.2.1 a ha hn)).narrow hB).moved hW.alike, ((h.2.kept (fun a ha hn => hS.2.1 a ha hn)).narrow hB).moved hW.alike⟩
theorem start_st {s : State} {args : Array Value} {A : Nat → Prop} (h : ∀ w ∈ lw_tbl, w.before args s = true) (hgv : (Jvm.Cond.and given_1 narrow_1).before args s = true) (hA : ∀ a : Nat, a < s.heap.size → ¬ A a) : ∃ tL tM tF : Nat, stA "LEAST" tL F_LEAST A s ∧ stA "MOST" tM F_MOST A s ∧ stA "FIRST" tF F_FIRST A s := by
  have hs := flat_of_before _ hgv
  obtain ⟨tL, zL⟩ := stA_of (A := A) (n := "LEAST") (f := F_LEAST) (h (.laysStatic "Teleprompter" "LEAST" "[I") (List.mem_of_getElem? (i := 328) (by decide +kernel))) (h (.initialized "Teleprompter") (List.mem_of_getElem? (i := 45) (by decide +kernel))) (hs _ (by decide +kernel)) (hs _ (by decide +kernel)) (fun j hj => by rcases (show j = 0 ∨ j = 1 ∨ j = 2 ∨ j = 3 ∨ j = 4 ∨ j = 5 ∨ j = 6 ∨ j = 7 ∨ j = 8 by omega) with rfl | rfl | rfl | rfl | rfl | rfl | rfl | rfl | rfl <;> exact hs _ (by decide +kernel)) hA
  obtain ⟨tM, zM⟩ := stA_of (A := A) (n := "MOST") (f := F_MOST) (h (.laysStatic "Teleprompter" "MOST" "[I") (List.mem_of_getElem? (i := 330) (by decide +kernel))) (h (.initialized "Teleprompter") (List.mem_of_getElem? (i := 45) (by decide +kernel))) (hs _ (by decide +kernel)) (hs _ (by decide +kernel)) (fun j hj => by rcases (show j = 0 ∨ j = 1 ∨ j = 2 ∨ j = 3 ∨ j = 4 ∨ j = 5 ∨ j = 6 ∨ j = 7 ∨ j = 8 by omega) with rfl | rfl | rfl | rfl | rfl | rfl | rfl | rfl | rfl <;> exact hs _ (by decide +kernel)) hA
  obtain ⟨tF, zF⟩ := stA_of (A := A) (n := "FIRST") (f := F_FIRST) (h (.laysStatic "Teleprompter" "FIRST" "[I") (List.mem_of_getElem? (i := 197) (by decide +kernel))) (h (.initialized "Teleprompter") (List.mem_of_getElem? (i := 45) (by decide +kernel))) (hs _ (by decide +kernel)) (hs _ (by decide +kernel)) (fun j hj => by rcases (show j = 0 ∨ j = 1 ∨ j = 2 ∨ j = 3 ∨ j = 4 ∨ j = 5 ∨ j = 6 ∨ j = 7 ∨ j = 8 by omega) with rfl | rfl | rfl | rfl | rfl | rfl | rfl | rfl | rfl <;> exact hs _ (by decide +kernel)) hA
  exact ⟨tL, tM, tF, zL, zM, zF⟩
