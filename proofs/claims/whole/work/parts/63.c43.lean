/-! the order of words -/
theorem it_ix {S : SS} (v : IV S) {o : Nat} (ho : o ∈ all S) : ∃ i, (itm S (hm S o))[i]? = some o ∧ so S o = sw S ((itm S (hm S o)).take i) ∧ hm S o < 12 := by
  obtain ⟨r, hr, hit⟩ := mem_all.mp ho
  have e := v.2.1.hm hr hit
  subst e
  obtain ⟨i, hi⟩ := List.getElem?_of_mem hit
  exact ⟨i, hi, (v.2.1 _ i o hr hi).2, hr⟩
theorem so_lt {S : SS} (v : IV S) {o : Nat} (ho : o ∈ all S) : so S o < 16 := by
  obtain ⟨i, hi, hs, hr⟩ := it_ix v ho
  have hlt := (List.getElem?_eq_some_iff.mp hi).1
  have hw := v.w2 o ho
  have hm1 := sw_mono (S := S) (j := (itm S (hm S o)).length) hi hlt (by omega)
  rw [List.take_length] at hm1
  obtain ⟨k0, k13, k4, k5, kle⟩ := v.1 _ hr
  have hne : itm S (hm S o) ≠ [] := fun z => by rw [z] at hi; cases hi
  have h0 : kd S (hm S o) ≠ 0 := fun z => hne (k0 z).1
  have h5 : kd S (hm S o) ≠ 5 := fun z => hne (k5 z).1
  by_cases h4 : kd S (hm S o) = 4
  · obtain ⟨⟨o', ho', -⟩, -, -⟩ := k4 h4
    rw [ho'] at hlt
    have : i = 0 := by simpa using hlt
    rw [hs, this]
    exact Nat.zero_lt_succ _
  · obtain ⟨e1, e2, -, -⟩ := k13 (by omega) (by omega)
    omega
theorem ps_inj {S : SS} (v : IV S) {o o' : Nat} (ho : o ∈ all S) (ho' : o' ∈ all S) (e : ps S o = ps S o') : o = o' := by
  have h1 := so_lt v ho
  have h2 := so_lt v ho'
  unfold ps at e
  have eh : hm S o = hm S o' := by omega
  have es : so S o = so S o' := by omega
  obtain ⟨i, hi, hs, -⟩ := it_ix v ho
  obtain ⟨j, hj, hs', -⟩ := it_ix v ho'
  rw [← eh] at hj hs'
  rcases Nat.lt_trichotomy i j with q | q | q
  · have := sw_mono (S := S) hi q (by have := v.w2 o ho; omega)
    omega
  · subst q
    rw [hi] at hj
    cases hj
    rfl
  · have := sw_mono (S := S) hj q (by have := v.w2 o' ho'; omega)
    omega
/-- the object that begins at a word -/
def atO (S : SS) (w : Nat) : Option Nat := (all S).find? (fun o => decide (ps S o = w))
theorem atO_mem {S : SS} {w o : Nat} (h : atO S w = some o) : o ∈ all S ∧ ps S o = w := ⟨List.mem_of_find?_eq_some h, of_decide_eq_true (List.find?_some (p := fun o => decide (ps S o = w)) h)⟩
theorem atO_no {S : SS} {w : Nat} (h : atO S w = none) : ∀ o, o ∈ all S → ps S o ≠ w := fun o ho => by
  have := List.find?_eq_none.mp h o ho
  simpa using this
theorem atO_iff {S : SS} (v : IV S) {w o : Nat} : atO S w = some o ↔ o ∈ all S ∧ ps S o = w := by
  refine ⟨atO_mem, fun h => ?_⟩
  cases e : atO S w with
  | none => exact absurd h.2 (atO_no e o h.1)
  | some o' =>
    obtain ⟨a, b⟩ := atO_mem e
    rw [ps_inj v a h.1 (b.trans h.2.symm)]
theorem rx_atO {h : AH} {D T : SS} {sg : Nat → Nat} (m : RX h D T sg) {w : Nat} (hw : w < 192) : hI h 6 6 w = ol ((atO T w).map sg) := by
  cases e : atO T w with
  | none => exact m.an hw (atO_no e)
  | some o =>
    obtain ⟨a, b⟩ := atO_mem e
    rw [← b]
    exact m.at a
/-- the objects at n words from w on -/
def wl (f : Nat → Option Nat) : Nat → Nat → List Nat
  | 0, _ => []
  | n + 1, w => (f w).toList ++ wl f n (w + 1)
theorem wl_add (f : Nat → Option Nat) : ∀ a b w, wl f (a + b) w = wl f a w ++ wl f b (w + a)
  | 0, b, w => by simp [wl]
  | a + 1, b, w => by
    rw [show a + 1 + b = a + b + 1 by omega, wl, wl, wl_add f a b (w + 1), List.append_assoc, show w + 1 + a = w + (a + 1) by omega]
theorem wl_eq (f : Nat → Option Nat) (p : Nat → Nat) : ∀ n w (l : List Nat), (∀ x o, w ≤ x → x < w + n → (f x = some o ↔ o ∈ l ∧ p o = x)) → l.Pairwise (fun a b => p a < p b) → (∀ o ∈ l, w ≤ p o ∧ p o < w + n) → wl f n w = l
  | 0, w, l, _, _, h3 => by
    cases l with
    | nil => rfl
    | cons a l => have := h3 a List.mem_cons_self; omega
  | n + 1, w, l, h1, h2, h3 => by
    rw [wl]
    cases e : f w with
    | none =>
      have hn : ∀ o ∈ l, p o ≠ w := fun o ho z => by
        have := (h1 w o (Nat.le_refl _) (by omega)).mpr ⟨ho, z⟩
        rw [e] at this
        cases this
      exact wl_eq f p n (w + 1) l (fun x o a b => h1 x o (by omega) (by omega)) h2 (fun o ho => by have := h3 o ho; have := hn o ho; omega)
    | some o =>
      obtain ⟨a1, a2⟩ := (h1 w o (Nat.le_refl _) (by omega)).mp e
      cases l with
      | nil => cases a1
      | cons y l =>
        obtain ⟨s1, s2⟩ := List.pairwise_cons.mp h2
        have hy : o = y := by
          rcases List.mem_cons.mp a1 with z | z
          · exact z
          · have := s1 o z
            have := h3 y List.mem_cons_self
            omega
        subst hy
        show o :: wl f n (w + 1) = o :: l
        congr 1
        refine wl_eq f p n (w + 1) l (fun x o' b1 b2 => ?_) s2 (fun o' ho' => ?_)
        · rw [h1 x o' (by omega) (by omega), List.mem_cons]
          constructor
          · rintro ⟨z | z, y⟩
            · rw [z] at y; omega
            · exact ⟨z, y⟩
          · rintro ⟨z, y⟩
            exact ⟨Or.inr z, y⟩
        · have := s1 o' ho'
          have := h3 o' (List.mem_cons_of_mem _ ho')
          omega
theorem it_sorted {S : SS} (v : IV S) {r : Nat} (hr : r < 12) : (itm S r).Pairwise (fun a b => ps S a < ps S b) := by
  rw [List.pairwise_iff_getElem]
  intro i j hi hj hij
  have e1 : (itm S r)[i]? = some (itm S r)[i] := List.getElem?_eq_getElem hi
  have e2 : (itm S r)[j]? = some (itm S r)[j] := List.getElem?_eq_getElem hj
  obtain ⟨a1, a2⟩ := v.2.1 r i _ hr e1
  obtain ⟨b1, b2⟩ := v.2.1 r j _ hr e2
  have := sw_mono (S := S) e1 hij (by have := v.w2 _ (mem_it hr e1); omega)
  unfold ps
  omega
theorem wl_it {S : SS} (v : IV S) {r : Nat} (hr : r < 12) : wl (atO S) 16 (16 * r) = itm S r := by
  refine wl_eq (atO S) (ps S) 16 (16 * r) (itm S r) (fun x o h1 h2 => ?_) (it_sorted v hr) (fun o ho => ?_)
  · rw [atO_iff v]
    constructor
    · rintro ⟨a, b⟩
      refine ⟨?_, b⟩
      have := so_lt v a
      unfold ps at b
      have e : hm S o = r := by omega
      obtain ⟨i, hi, -, -⟩ := it_ix v a
      rw [e] at hi
      exact List.mem_of_getElem? hi
    · rintro ⟨a, b⟩
      exact ⟨mem_all.mpr ⟨r, hr, a⟩, b⟩
  · have := so_lt v (mem_all.mpr ⟨r, hr, ho⟩)
    have e := v.2.1.hm hr ho
    unfold ps
    omega
theorem all_cat (f : Nat → List Nat) : ∀ n, (List.range n).flatMap f = cat f n 0
  | 0 => rfl
  | n + 1 => by
    rw [List.range_succ, List.flatMap_append, all_cat f n, cat_end]
    simp
theorem wl_cat {S : SS} (v : IV S) : ∀ n r, r + n ≤ 12 → wl (atO S) (16 * n) (16 * r) = cat (itm S) n r
  | 0, _, _ => rfl
  | n + 1, r, h => by
    rw [show 16 * (n + 1) = 16 + 16 * n by omega, wl_add, wl_it v (by omega), cat, show 16 * r + 16 = 16 * (r + 1) by omega, wl_cat v n (r + 1) (by omega)]
theorem wl_all {S : SS} (v : IV S) : wl (atO S) 192 0 = all S := by
  have := wl_cat v 12 0 (by decide)
  unfold all
  rw [all_cat]
  exact this
def gS (S : SS) (col : Nat → Bool) (o : Nat) : List (Option Nat) := if col (hm S o) = true then [] else fd S o
theorem gS_in {S : SS} {col : Nat → Bool} {r : Nat} : ∀ (l : List Nat), (∀ o ∈ l, hm S o = r) → l.flatMap (gS S col) = if col r = true then [] else l.flatMap (fd S)
  | [], _ => by split <;> rfl
  | o :: l, h => by
    rw [List.flatMap_cons, List.flatMap_cons, gS_in l (fun x hx => h x (List.mem_cons_of_mem _ hx))]
    unfold gS
    rw [h o List.mem_cons_self]
    split <;> rfl
theorem st_cat {S : SS} {col : Nat → Bool} (v : IV S) : ∀ n r, r + n ≤ 12 → (cat (itm S) n r).flatMap (gS S col) = stL S col n r
  | 0, _, _ => rfl
  | n + 1, r, h => by
    rw [cat, List.flatMap_append, st_cat v n (r + 1) (by omega), stL, gS_in _ (fun o ho => v.2.1.hm (by omega) ho)]
theorem st_all {S : SS} (v : IV S) (col : Nat → Bool) : (all S).flatMap (gS S col) = stL S col 12 0 := by
  unfold all
  rw [all_cat]
  exact st_cat v 12 0 (by decide)
