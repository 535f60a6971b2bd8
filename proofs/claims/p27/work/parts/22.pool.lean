/-! the pool of kept states, and worlds with a pool behind them -/
theorem vaP_mem {D : va_G} {cl : List vw_C} {ws : va_W} {H : Heap} : va_P D cl ws H ↔ ∀ q ∈ ws, va_at D cl q H := by
  constructor
  · intro h q hq
    obtain ⟨k, hk⟩ := List.mem_iff_getElem?.mp hq
    exact h k q hk
  · intro h k q hk
    exact h q (List.mem_of_getElem? hk)
theorem vaD_iff {A : Nat → Prop} {ws : va_W} : va_D A ws ↔ (ws.map Prod.fst).Nodup ∧ ∀ q ∈ ws, A q.1 := by
  constructor
  · intro h
    refine ⟨?_, fun q hq => ?_⟩
    · refine List.pairwise_iff_getElem.mpr ?_
      intro i j hi hj hij e
      have hi' : i < ws.length := by rw [List.length_map] at hi; exact hi
      have hj' : j < ws.length := by rw [List.length_map] at hj; exact hj
      have e1 : ws[i]? = some ws[i] := List.getElem?_eq_getElem hi'
      have e2 : ws[j]? = some ws[j] := List.getElem?_eq_getElem hj'
      rw [List.getElem_map, List.getElem_map] at e
      have := h.1 i j _ _ e1 e2 e
      omega
    · obtain ⟨k, hk⟩ := List.mem_iff_getElem?.mp hq
      exact h.2 k q hk
  · intro h
    refine ⟨fun i j p q hp hq e => ?_, fun k q hk => h.2 q (List.mem_of_getElem? hk)⟩
    have hn := List.pairwise_iff_getElem.mp h.1
    obtain ⟨li, ei⟩ := List.getElem?_eq_some_iff.mp hp
    obtain ⟨lj, ej⟩ := List.getElem?_eq_some_iff.mp hq
    have li' : i < (ws.map Prod.fst).length := by rw [List.length_map]; exact li
    have lj' : j < (ws.map Prod.fst).length := by rw [List.length_map]; exact lj
    have m1 : (ws.map Prod.fst)[i] = p.1 := by rw [List.getElem_map, ei]
    have m2 : (ws.map Prod.fst)[j] = q.1 := by rw [List.getElem_map, ej]
    rcases Nat.lt_trichotomy i j with x | x | x
    · exact absurd (by rw [m1, m2, e]) (hn i j li' lj' x)
    · exact x
    · exact absurd (by rw [m1, m2, e]) (hn j i lj' li' x)
theorem va_P.perm {D : va_G} {cl : List vw_C} {ws ws' : va_W} {H : Heap} (h : va_P D cl ws H) (p : ws.Perm ws') : va_P D cl ws' H := vaP_mem.mpr fun q hq => vaP_mem.mp h q (p.mem_iff.mpr hq)
theorem va_D.perm {A : Nat → Prop} {ws ws' : va_W} (h : va_D A ws) (p : ws.Perm ws') : va_D A ws' := by
  obtain ⟨h1, h2⟩ := vaD_iff.mp h
  exact vaD_iff.mpr ⟨(p.map Prod.fst).nodup_iff.mp h1, fun q hq => h2 q (p.mem_iff.mpr hq)⟩
theorem va_P.right {D : va_G} {cl : List vw_C} {wr wc : va_W} {H : Heap} (h : va_P D cl (wr ++ wc) H) : va_P D cl wc H := vaP_mem.mpr fun q hq => vaP_mem.mp h q (List.mem_append_right _ hq)
theorem va_D.right {A : Nat → Prop} {wr wc : va_W} (h : va_D A (wr ++ wc)) : va_D A wc := by
  obtain ⟨h1, h2⟩ := vaD_iff.mp h
  rw [List.map_append] at h1
  exact vaD_iff.mpr ⟨(List.nodup_append.mp h1).2.1, fun q hq => h2 q (List.mem_append_right _ hq)⟩
theorem va_free2 {A0 : Nat → Prop} {wc : va_W} {H0 H : Heap} {locs : List Loc} (hD : va_D A0 wc) (hS : va_S A0 H0 H locs) (hA : ∀ q, H0.size ≤ q → A0 q) : ∀ q, va_A wc H.size q → A0 q := by
  intro q h
  rcases h with ⟨k, e, h⟩ | h
  · exact hD.2 k _ h
  · exact hA q (Nat.le_trans hS.1 h)
theorem joinPerm {A0 : Nat → Prop} {D : va_G} {cl : List vw_C} {wr wc w1 : va_W} {H H1 : Heap} (hP : va_P D cl (wr ++ wc) H) (hD : va_D A0 (wr ++ wc))
    (hk : ∀ q : Nat, q < H.size → ¬ va_A wc H.size q → H1[q]? = H[q]?) (hF : ∀ q, va_A wc H.size q → A0 q) (hP1 : va_P D cl w1 H1) (hD1 : va_D (va_A wc H.size) w1) : va_P D cl (wr ++ w1) H1 ∧ va_D A0 (wr ++ w1) := by
  have hPm := vaP_mem.mp hP
  obtain ⟨hn, hA⟩ := vaD_iff.mp hD
  rw [List.map_append] at hn
  obtain ⟨n1, n2, n3⟩ := List.nodup_append.mp hn
  obtain ⟨m1, m2⟩ := vaD_iff.mp hD1
  have apart : ∀ q ∈ wr, q.1 < H.size ∧ ¬ va_A wc H.size q.1 := by
    intro q hq
    have hl := (hPm q (List.mem_append_left _ hq)).lt
    refine ⟨hl, fun h => ?_⟩
    rcases h with ⟨k, e, h⟩ | h
    · exact n3 q.1 (List.mem_map.mpr ⟨q, hq, rfl⟩) q.1 (List.mem_map.mpr ⟨(q.1, e), List.mem_of_getElem? h, rfl⟩) rfl
    · omega
  refine ⟨vaP_mem.mpr fun q hq => ?_, vaD_iff.mpr ⟨?_, fun q hq => ?_⟩⟩
  · rcases List.mem_append.mp hq with h | h
    · exact (hPm q (List.mem_append_left _ h)).kept (hk q.1 (apart q h).1 (apart q h).2)
    · exact vaP_mem.mp hP1 q h
  · rw [List.map_append]
    refine List.nodup_append.mpr ⟨n1, m1, ?_⟩
    intro a ha b hb e
    obtain ⟨x, hx, rfl⟩ := List.mem_map.mp ha
    obtain ⟨y, hy, rfl⟩ := List.mem_map.mp hb
    exact (apart x hx).2 (by rw [e]; exact m2 y hy)
  · rcases List.mem_append.mp hq with h | h
    · exact hA q (List.mem_append_left _ h)
    · exact hF _ (m2 q h)
theorem permIdx {α : Type} {X Y : List α} (is : List Nat) (n : Nat) (hl : X.length = n) (h : is.Perm (List.range n)) (hy : is.filterMap (fun i => X[i]?) = Y) : X.Perm Y := by
  have e : (List.range n).filterMap (fun i => X[i]?) = X := by
    subst hl
    clear h hy
    induction X with
    | nil => rfl
    | cons x xs ih =>
      rw [List.length_cons, List.range_succ_eq_map, List.filterMap_cons]
      simp only [List.getElem?_cons_zero]
      rw [List.filterMap_map]
      refine congrArg (fun l => x :: l) ?_
      refine Eq.trans ?_ ih
      congr 1
  rw [← hy]
  have := (h.filterMap (fun i => X[i]?)).symm
  rw [e] at this
  exact this
abbrev stW (cI : ClassId) (a : Nat → Nat) (S : Nat → Nat → Int32) : va_W := [(a 0, .inr (1, [.ref (a 1), .ref (a 2), .ref (a 8), .ref (a 11), .int (S 14 0), .int (S 15 0), .int (S 16 0), .int (S 17 0), .int (S 18 0), .int (S 19 0), .int (S 20 0), .int (S 21 0), .int (S 22 0), .int (S 23 0), .int (S 24 0)])), (a 1, .inl (cI, 9, .inl (S 0))), (a 2, .inr (0, [.int (S 1 0), .int (S 2 0), .int (S 3 0), .int (S 4 0), .ref (a 3), .ref (a 4), .ref (a 5), .ref (a 6), .ref (a 7)])), (a 3, .inl (cI, 120, .inl (S 5))), (a 4, .inl (cI, 120, .inl (S 6))), (a 5, .inl (cI, 120, .inl (S 7))), (a 6, .inl (cI, 120, .inl (S 8))), (a 7, .inl (cI, 120, .inl (S 9))), (a 8, .inr (2, [.int (S 10 0), .ref (a 9), .ref (a 10)])), (a 9, .inl (cI, 61, .inl (S 11))), (a 10, .inl (cI, 61, .inl (S 12))), (a 11, .inl (cI, 4, .inl (S 13)))]
def plW (cI : ClassId) (ad : Nat → Nat → Nat) (S : Nat → Nat → Nat → Int32) : Nat → va_W
  | 0 => []
  | n + 1 => plW cI ad S n ++ stW cI (ad n) (S n)
def plR (cI : ClassId) (ad : Nat → Nat → Nat) (S : Nat → Nat → Nat → Int32) (k : Nat) : Nat → va_W
  | 0 => []
  | n + 1 => if n = k then plW cI ad S n else plR cI ad S k n ++ stW cI (ad n) (S n)
def updS (S : Nat → Nat → Nat → Int32) (k : Nat) (T : Nat → Nat → Int32) : Nat → Nat → Nat → Int32 := fun i => if i = k then T else S i
theorem plW_perm (cI : ClassId) (ad : Nat → Nat → Nat) (S : Nat → Nat → Nat → Int32) (k : Nat) : ∀ n, k < n → (plW cI ad S n).Perm (plR cI ad S k n ++ stW cI (ad k) (S k)) := by
  intro n
  induction n with
  | zero => intro h; omega
  | succ n ih =>
    intro h
    by_cases e : n = k
    · subst e
      simp only [plW, plR, if_pos]
      exact List.Perm.refl _
    · simp only [plW, plR, if_neg e]
      have := (ih (by omega)).append_right (stW cI (ad n) (S n))
      refine this.trans ?_
      rw [List.append_assoc, List.append_assoc]
      exact List.Perm.append_left _ List.perm_append_comm
theorem plW_upd (cI : ClassId) (ad : Nat → Nat → Nat) (S : Nat → Nat → Nat → Int32) (k : Nat) (T : Nat → Nat → Int32) : ∀ n, n ≤ k → plW cI ad (updS S k T) n = plW cI ad S n := by
  intro n
  induction n with
  | zero => intro _; rfl
  | succ n ih =>
    intro h
    have e : updS S k T n = S n := by unfold updS; rw [if_neg (by omega)]
    simp only [plW]
    rw [ih (by omega), e]
theorem plR_upd (cI : ClassId) (ad : Nat → Nat → Nat) (S : Nat → Nat → Nat → Int32) (k : Nat) (T : Nat → Nat → Int32) : ∀ n, plR cI ad (updS S k T) k n = plR cI ad S k n := by
  intro n
  induction n with
  | zero => rfl
  | succ n ih =>
    by_cases e : n = k
    · simp only [plR, if_pos e]
      exact plW_upd cI ad S k T n (by omega)
    · have e2 : updS S k T n = S n := by unfold updS; rw [if_neg e]
      simp only [plR, if_neg e]
      rw [ih, e2]
theorem plW_put (cI : ClassId) (ad : Nat → Nat → Nat) (S : Nat → Nat → Nat → Int32) (k : Nat) (T : Nat → Nat → Int32) (n : Nat) (h : k < n) : (plR cI ad S k n ++ stW cI (ad k) T).Perm (plW cI ad (updS S k T) n) := by
  have := (plW_perm cI ad (updS S k T) k n h).symm
  rw [plR_upd] at this
  have e : updS S k T k = T := by unfold updS; rw [if_pos rfl]
  rw [e] at this
  exact this
theorem plW_len (cI : ClassId) (ad : Nat → Nat → Nat) (S : Nat → Nat → Nat → Int32) : ∀ n, (plW cI ad S n).length = 12 * n := by
  intro n
  induction n with
  | zero => rfl
  | succ n ih => simp only [plW, List.length_append, ih]; rfl
/-- the object of the state k stands in the pool -/
theorem plW_get (cI : ClassId) (ad : Nat → Nat → Nat) (S : Nat → Nat → Nat → Int32) (k : Nat) : ∀ n, k < n → (plW cI ad S n)[12 * k]? = (stW cI (ad k) (S k))[0]? := by
  intro n
  induction n with
  | zero => intro h; omega
  | succ n ih =>
    intro h
    simp only [plW]
    by_cases e : k = n
    · subst e
      rw [List.getElem?_append_right (by rw [plW_len]; omega), plW_len, Nat.sub_self]
    · rw [List.getElem?_append_left (by rw [plW_len]; omega)]
      exact ih (by omega)
theorem plW_getX {X : va_W} (cI : ClassId) (ad : Nat → Nat → Nat) (S : Nat → Nat → Nat → Int32) (k n : Nat) (h : k < n) : (X ++ plW cI ad S n)[X.length + 12 * k]? = (stW cI (ad k) (S k))[0]? := by
  rw [List.getElem?_append_right (by omega), Nat.add_sub_cancel_left]
  exact plW_get cI ad S k n h
/-- what the history's row holds -/
def HH (hf : Nat → Option Nat) (hr : Nat → Nat) (ad : Nat → Nat → Nat) : Prop := ∀ i, i < 8 → hf i = some (ad (hr i) 0) ∧ hr i < 10
/-- what the images' row holds -/
def HI (f : Nat → Option Nat) (ad : Nat → Nat → Nat) : Prop := ∀ i, i < 2 → f i = some (ad (8 + i) 0)
def rotN (hr : Nat → Nat) : Nat → Nat := fun i => if i < 7 then hr (i + 1) else if i = 7 then hr 0 else hr i
section PCALL
variable {A0 : Nat → Prop} {D : va_G} {cl : List vw_C} {X X1 wr wc cx cx1 w1 pl : va_W} {H H1 : Heap}
/-- a call over cells of X alone -/
theorem poolX_pre (hP : va_P D cl (X ++ pl) H) (hD : va_D A0 (X ++ pl)) (hx : X.Perm (wr ++ wc)) : va_P D cl ((wr ++ pl) ++ wc) H ∧ va_D A0 ((wr ++ pl) ++ wc) := by
  have p : (X ++ pl).Perm ((wr ++ pl) ++ wc) := by
    refine (hx.append_right pl).trans ?_
    rw [List.append_assoc, List.append_assoc]
    exact List.Perm.append_left _ List.perm_append_comm
  exact ⟨hP.perm p, hD.perm p⟩
theorem poolX_post (h : va_P D cl ((wr ++ pl) ++ w1) H1 ∧ va_D A0 ((wr ++ pl) ++ w1)) (hx1 : (wr ++ w1).Perm X1) : va_P D cl (X1 ++ pl) H1 ∧ va_D A0 (X1 ++ pl) := by
  have p : ((wr ++ pl) ++ w1).Perm (X1 ++ pl) := by
    refine List.Perm.trans ?_ (hx1.append_right pl)
    rw [List.append_assoc, List.append_assoc]
    exact List.Perm.append_left _ List.perm_append_comm
  exact ⟨h.1.perm p, h.2.perm p⟩
/-- a call over cells of X and the whole pool -/
theorem poolC_pre (hP : va_P D cl (X ++ pl) H) (hD : va_D A0 (X ++ pl)) (hx : X.Perm (wr ++ cx)) : va_P D cl (wr ++ (cx ++ pl)) H ∧ va_D A0 (wr ++ (cx ++ pl)) := by
  have p : (X ++ pl).Perm (wr ++ (cx ++ pl)) := by
    rw [← List.append_assoc]
    exact hx.append_right pl
  exact ⟨hP.perm p, hD.perm p⟩
theorem poolC_post {pl1 : va_W} (h : va_P D cl (wr ++ (cx1 ++ pl1)) H1 ∧ va_D A0 (wr ++ (cx1 ++ pl1))) (hx1 : (wr ++ cx1).Perm X1) : va_P D cl (X1 ++ pl1) H1 ∧ va_D A0 (X1 ++ pl1) := by
  have p : (wr ++ (cx1 ++ pl1)).Perm (X1 ++ pl1) := by
    rw [← List.append_assoc]
    exact hx1.append_right pl1
  exact ⟨h.1.perm p, h.2.perm p⟩
variable {cI : ClassId} {ad : Nat → Nat → Nat} {S : Nat → Nat → Nat → Int32} {k : Nat}
/-- a call over a state of the pool, and cells of X behind it -/
theorem poolB_pre (hP : va_P D cl (X ++ plW cI ad S 10) H) (hD : va_D A0 (X ++ plW cI ad S 10)) (hk : k < 10) (hx : X.Perm (wr ++ cx)) : va_P D cl ((wr ++ plR cI ad S k 10) ++ (stW cI (ad k) (S k) ++ cx)) H ∧ va_D A0 ((wr ++ plR cI ad S k 10) ++ (stW cI (ad k) (S k) ++ cx)) := by
  have p : (X ++ plW cI ad S 10).Perm ((wr ++ plR cI ad S k 10) ++ (stW cI (ad k) (S k) ++ cx)) := by
    refine (hx.append (plW_perm cI ad S k 10 hk)).trans ?_
    rw [List.append_assoc, List.append_assoc]
    refine List.Perm.append_left _ ?_
    refine List.perm_append_comm.trans ?_
    rw [List.append_assoc]
  exact ⟨hP.perm p, hD.perm p⟩
theorem poolB_post {T : Nat → Nat → Int32} (h : va_P D cl ((wr ++ plR cI ad S k 10) ++ (stW cI (ad k) T ++ cx1)) H1 ∧ va_D A0 ((wr ++ plR cI ad S k 10) ++ (stW cI (ad k) T ++ cx1))) (hk : k < 10) (hx1 : (wr ++ cx1).Perm X1) : va_P D cl (X1 ++ plW cI ad (updS S k T) 10) H1 ∧ va_D A0 (X1 ++ plW cI ad (updS S k T) 10) := by
  have p : ((wr ++ plR cI ad S k 10) ++ (stW cI (ad k) T ++ cx1)).Perm (X1 ++ plW cI ad (updS S k T) 10) := by
    refine List.Perm.trans ?_ (hx1.append (plW_put cI ad S k T 10 hk))
    rw [List.append_assoc, List.append_assoc]
    refine List.Perm.append_left _ ?_
    refine List.Perm.trans ?_ List.perm_append_comm
    rw [List.append_assoc]
  exact ⟨h.1.perm p, h.2.perm p⟩
/-- a call over cells of X, and a state of the pool behind them -/
theorem poolD_pre (hP : va_P D cl (X ++ plW cI ad S 10) H) (hD : va_D A0 (X ++ plW cI ad S 10)) (hk : k < 10) (hx : X.Perm (wr ++ cx)) : va_P D cl ((wr ++ plR cI ad S k 10) ++ (cx ++ stW cI (ad k) (S k))) H ∧ va_D A0 ((wr ++ plR cI ad S k 10) ++ (cx ++ stW cI (ad k) (S k))) := by
  obtain ⟨h1, h2⟩ := poolB_pre hP hD hk hx
  have p : ((wr ++ plR cI ad S k 10) ++ (stW cI (ad k) (S k) ++ cx)).Perm ((wr ++ plR cI ad S k 10) ++ (cx ++ stW cI (ad k) (S k))) := List.Perm.append_left _ List.perm_append_comm
  exact ⟨h1.perm p, h2.perm p⟩
theorem poolD_post (h : va_P D cl ((wr ++ plR cI ad S k 10) ++ (cx1 ++ stW cI (ad k) (S k))) H1 ∧ va_D A0 ((wr ++ plR cI ad S k 10) ++ (cx1 ++ stW cI (ad k) (S k)))) (hk : k < 10) (hx1 : (wr ++ cx1).Perm X1) : va_P D cl (X1 ++ plW cI ad S 10) H1 ∧ va_D A0 (X1 ++ plW cI ad S 10) := by
  have p : ((wr ++ plR cI ad S k 10) ++ (cx1 ++ stW cI (ad k) (S k))).Perm ((wr ++ plR cI ad S k 10) ++ (stW cI (ad k) (S k) ++ cx1)) := List.Perm.append_left _ List.perm_append_comm
  have hq := poolB_post (T := S k) ⟨h.1.perm p, h.2.perm p⟩ hk hx1
  have e : updS S k (S k) = S := by
    funext i
    unfold updS
    by_cases z : i = k
    · rw [if_pos z, z]
    · rw [if_neg z]
  rw [e] at hq
  exact hq
end PCALL
def mkS (c0 : (Nat → Int32)) (c1 : Int32) (c2 : Int32) (c3 : Int32) (c4 : Int32) (c5 : (Nat → Int32)) (c6 : (Nat → Int32)) (c7 : (Nat → Int32)) (c8 : (Nat → Int32)) (c9 : (Nat → Int32)) (c10 : Int32) (c11 : (Nat → Int32)) (c12 : (Nat → Int32)) (c13 : (Nat → Int32)) (c14 : Int32) (c15 : Int32) (c16 : Int32) (c17 : Int32) (c18 : Int32) (c19 : Int32) (c20 : Int32) (c21 : Int32) (c22 : Int32) (c23 : Int32) (c24 : Int32) : Nat → Nat → Int32 := fun i => match i with
  | 0 => c0
  | 1 => fun _ => c1
  | 2 => fun _ => c2
  | 3 => fun _ => c3
  | 4 => fun _ => c4
  | 5 => c5
  | 6 => c6
  | 7 => c7
  | 8 => c8
  | 9 => c9
  | 10 => fun _ => c10
  | 11 => c11
  | 12 => c12
  | 13 => c13
  | 14 => fun _ => c14
  | 15 => fun _ => c15
  | 16 => fun _ => c16
  | 17 => fun _ => c17
  | 18 => fun _ => c18
  | 19 => fun _ => c19
  | 20 => fun _ => c20
  | 21 => fun _ => c21
  | 22 => fun _ => c22
  | 23 => fun _ => c23
  | _ => fun _ => c24
