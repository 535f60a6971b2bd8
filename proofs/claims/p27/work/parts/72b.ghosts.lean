/-! what holds of a ghost, and that it goes on -/
def clr (g : GS) : GS := gW g g.1 (gM g) none
def GI (g : GS) : Prop := (∃ S, RS (gM g) g.1 S) ∧ gL g ≤ 140 ∧ (gF g < 4 ∧ (gF g % 2 = 1 → ∃ S, RS (gM g) (gI g) S) ∧ (gF g / 2 = 1 → ∃ S, RS (gM g) (fun i => gI g (510 + i)) S)) ∧ gT g = none
theorem GI_img {g : GS} (h : GI g) : ∃ ik PS, IMG (gM g) (gF g) (gI g) ik PS := by
  obtain ⟨-, -, ⟨h1, h2, h3⟩, -⟩ := h
  obtain ⟨S8, a⟩ : ∃ S8, gF g % 2 = 1 → RS (gM g) (gI g) S8 := by
    by_cases c : gF g % 2 = 1
    · obtain ⟨S, hS⟩ := h2 c
      exact ⟨S, fun _ => hS⟩
    · exact ⟨fun _ _ => 0, fun q => absurd q c⟩
  obtain ⟨S9, b⟩ : ∃ S9, gF g / 2 = 1 → RS (gM g) (fun i => gI g (510 + i)) S9 := by
    by_cases c : gF g / 2 = 1
    · obtain ⟨S, hS⟩ := h3 c
      exact ⟨S, fun _ => hS⟩
    · exact ⟨fun _ _ => 0, fun q => absurd q c⟩
  exact ⟨fun k => if k = 0 then nI (gF g % 2) else nI (gF g / 2), fun k => if k = 8 then S8 else S9, h1, rfl, rfl, fun q => a q, fun q => b q⟩
theorem img_GI {M f : Nat} {im ik : Nat → Int32} {PS : Nat → Nat → Nat → Int32} (h : IMG M f im ik PS) : f < 4 ∧ (f % 2 = 1 → ∃ S, RS M im S) ∧ (f / 2 = 1 → ∃ S, RS M (fun i => im (510 + i)) S) := ⟨h.1, fun q => ⟨_, h.2.2.2.1 q⟩, fun q => ⟨_, h.2.2.2.2 q⟩⟩
theorem img_mono {M M' f : Nat} {im : Nat → Int32} (hm : M ≤ M') (h : f < 4 ∧ (f % 2 = 1 → ∃ S, RS M im S) ∧ (f / 2 = 1 → ∃ S, RS M (fun i => im (510 + i)) S)) : f < 4 ∧ (f % 2 = 1 → ∃ S, RS M' im S) ∧ (f / 2 = 1 → ∃ S, RS M' (fun i => im (510 + i)) S) := ⟨h.1, fun q => (h.2.1 q).elim fun S hS => ⟨S, REL_mono hm hS⟩, fun q => (h.2.2 q).elim fun S hS => ⟨S, REL_mono hm hS⟩⟩
theorem HISE0 (M : Nat) (PS : Nat → Nat → Nat → Int32) : HISE M 0 (fun i => i) PS none := ⟨O0, ⟨Nat.zero_le _, fun j hj => hj, fun i j _ _ e => e, fun j hj => absurd hj (Nat.not_lt_zero _)⟩, fun _ e => by cases e⟩
theorem GI_h {g : GS} (h : GI g) (PS : Nat → Nat → Nat → Int32) : HISE (gM g) 0 (fun i => i) PS (gT g) := by rw [h.2.2.2]; exact HISE0 _ _
theorem RS_MI {M : Nat} {w : Nat → Int32} {S : Nat → Nat → Int32} (h : RS M w S) : ∃ z, MI M w z := by
  obtain ⟨z, a, b⟩ := h
  exact ⟨z, a⟩
theorem GI_MI {g : GS} (h : GI g) : ∃ z, MI (gM g) g.1 z := h.1.elim fun S hS => RS_MI hS
theorem G_wipe {g : GS} (h : GI g) : ∃ r g', g_wipe g = some (r, g') ∧ GI g' ∧ gM g' = gM g := ⟨_, _, rfl, ⟨h.1, Nat.zero_le _, h.2.2.1, h.2.2.2⟩, rfl⟩
theorem G_write {g : GS} (h : GI g) (p : Int32) : ∃ r g', g_write p g = some (r, g') ∧ GI g' ∧ gM g' = gM g := by
  obtain ⟨v, tx2, tx2', L', a, b, c, d⟩ := A_write h.2.1 (gX g) (fun _ _ => rfl) p
  exact ⟨_, _, b, ⟨h.1, c, h.2.2.1, h.2.2.2⟩, rfl⟩
theorem G_load {g : GS} (hM : gM g ≤ 80000) (h : GI g) : ∃ r g', g_load g = some (r, g') ∧ GI g' ∧ gM g' = gM g := by
  obtain ⟨S, hS⟩ := h.1
  obtain ⟨v, fk', fp', D1, D2, D3, D4, D5, D6, wo', pg', wip', rows', le', pa', cu', ro', fi', pr', kc', ps', sp', tm', hd', top', sk', rp', ms', je', ov', u', hr', PS', w', a, b, c, d, e⟩ := A_load hM hS (GI_h h (fun _ _ _ => 0)) h.2.1 (gX g) (fun _ _ => rfl) 0 0 0 0 0 0 O0 O0 O0 O0 O0
  exact ⟨_, _, b, ⟨⟨mkS _ _ _ _ _ _ _ _ _ _ _ _ _ _ _ _ _ _ _ _ _ _ _ _ _, c⟩, h.2.1, h.2.2.1, rfl⟩, rfl⟩
theorem G_set {g : GS} (hM : gM g ≤ 80000) (h : GI g) (p q : Int32) : ∃ r g', g_set p q g = some (r, g') ∧ GI g' ∧ gM g' = gM g := by
  obtain ⟨S, hS⟩ := h.1
  obtain ⟨v, st', rows', ro', fi', top', u', hr', PS', w', a, b, c, d, e⟩ := A_set hM hS (GI_h h (fun _ _ _ => 0)) p q
  exact ⟨_, _, b, ⟨⟨mkS _ _ _ _ _ _ _ _ _ _ _ _ _ _ _ _ _ _ _ _ _ _ _ _ _, c⟩, h.2.1, h.2.2.1, rfl⟩, rfl⟩
theorem G_hear {g : GS} (hM : gM g ≤ 80000) (h : GI g) (p : Int32) : ∃ r g', g_hear p g = some (r, g') ∧ GI (clr g') ∧ gM g' = gM g := by
  obtain ⟨S, hS⟩ := h.1
  obtain ⟨v, cu', pr', ti', po', ke', kc', ps', sp', hd', sk', rp', ms', ov', u', hr', PS', w', tp', a, b, c, d, e, f⟩ := A_hear hM hS (GI_h h (fun _ _ _ => 0)) p
  exact ⟨_, _, b, ⟨⟨mkS _ _ _ _ _ _ _ _ _ _ _ _ _ _ _ _ _ _ _ _ _ _ _ _ _, c⟩, h.2.1, h.2.2.1, rfl⟩, rfl⟩
theorem G_release {g : GS} (hM : gM g ≤ 80000) (h : GI g) : ∃ r g', g_release g = some (r, g') ∧ GI g' ∧ gM g' = gM g := by
  obtain ⟨S, hS⟩ := h.1
  obtain ⟨v, cu', u', hr', PS', w', a, b, c, d, e⟩ := A_release hM hS (GI_h h (fun _ _ _ => 0))
  exact ⟨_, _, b, ⟨⟨mkS _ _ _ _ _ _ _ _ _ _ _ _ _ _ _ _ _ _ _ _ _ _ _ _ _, c⟩, h.2.1, h.2.2.1, rfl⟩, rfl⟩
theorem G_place {g : GS} (hM : gM g ≤ 80000) (h : GI g) (p : Int32) : ∃ r g', g_place p g = some (r, g') ∧ GI g' ∧ gM g' = gM g := by
  obtain ⟨S, hS⟩ := h.1
  obtain ⟨v, cu', pr', kc', ps', hd', u', hr', PS', w', a, b, c, d, e⟩ := A_place hM hS (GI_h h (fun _ _ _ => 0)) p
  exact ⟨_, _, b, ⟨⟨mkS _ _ _ _ _ _ _ _ _ _ _ _ _ _ _ _ _ _ _ _ _ _ _ _ _, c⟩, h.2.1, h.2.2.1, rfl⟩, rfl⟩
theorem G_keep {g : GS} (hM : gM g ≤ 80000) (h : GI g) (p : Int32) : ∃ r g', g_keep p g = some (r, g') ∧ GI g' ∧ gM g' = gM g := by
  obtain ⟨S, hS⟩ := h.1
  obtain ⟨ik, PS, hi⟩ := GI_img h
  obtain ⟨v, f', ik', PS', images', a, b, c, d⟩ := A_keep hM hS (GI_h h PS) hi p
  exact ⟨_, _, b, ⟨⟨S, hS⟩, h.2.1, img_GI c, h.2.2.2⟩, rfl⟩
theorem G_back {g : GS} (hM : gM g ≤ 80000) (h : GI g) (p : Int32) : ∃ r g', g_back p g = some (r, g') ∧ GI g' ∧ gM g' = gM g := by
  obtain ⟨S, hS⟩ := h.1
  obtain ⟨ik, PS, hi⟩ := GI_img h
  obtain ⟨v, u', hr', PS', S', w', a, b, c, d, e⟩ := A_back hM hS (GI_h h PS) hi p
  exact ⟨_, _, b, ⟨⟨S', c⟩, h.2.1, h.2.2.1, rfl⟩, rfl⟩
theorem G_tick {g : GS} (hM : gM g + 100 ≤ 80000) (h : GI g) {k : Nat} (hk1 : 1 ≤ k) (hk : k ≤ 100) : ∃ r g', g_tick (nI k) g = some (r, g') ∧ GI g' ∧ gM g' = gM g + 100 ∧ (∃ J J', J ≤ J' ∧ J' ≤ gM g + 100 ∧ g.1 18 = nI J ∧ g'.1 18 = nI J') ∧ ∃ z, MI (gM g') g'.1 z ∧ shWn g'.1 z := by
  obtain ⟨S, hS⟩ := h.1
  obtain ⟨v, w', a, b, c, d⟩ := B_tick hM hS hk1 hk
  exact ⟨_, _, a, ⟨b, h.2.1, img_mono (Nat.le_add_right _ _) h.2.2.1, rfl⟩, rfl, c, d⟩
/-- numbers out of a script -/
theorem L_low (v : Int32) {n : Nat} (hn : 1 ≤ n) (hn' : n < 2 ^ 31) : ∃ k, k < n ∧ f_L_low v (nI n) = some (nI k) := by
  have h0 : ¬ (v &&& (2147483647 : Int32)) < 0 := by
    rw [Int32.lt_iff_toInt_lt]
    intro h
    have e : (v &&& (2147483647 : Int32)).toBitVec.msb = false := by
      rw [Int32.toBitVec_and, BitVec.msb_and]
      rw [show (2147483647 : Int32).toBitVec.msb = false by decide, Bool.and_false]
    have : 0 ≤ (v &&& (2147483647 : Int32)).toBitVec.toInt := by
      rw [BitVec.toInt_eq_toNat_of_msb e]
      exact Int.natCast_nonneg _
    rw [show (0 : Int32).toInt = 0 from rfl] at h
    have h2 : (v &&& (2147483647 : Int32)).toInt = (v &&& (2147483647 : Int32)).toBitVec.toInt := rfl
    omega
  obtain ⟨a, ha, e⟩ := nI_of h0
  refine ⟨a % n, Nat.mod_lt _ hn, ?_⟩
  unfold f_L_low
  rw [e, if_neg (nI_ne0 hn hn')]
  have d : nI a / nI n = nI (a / n) := by
    rw [nI_iI a, nI_iI n, iI_div (by omega), nI_iI]
    rfl
  have hle : a / n * n ≤ a := Nat.div_mul_le_self a n
  rw [d, nI_mul, pk_sub hle]
  have e2 : a - a / n * n = a % n := by
    have := Nat.mod_add_div a n
    rw [Nat.mul_comm] at this
    omega
  rw [e2]
