/-! laying together, as the reference does it -/
def LC (n r : Nat) (T : SS) (gl : List Nat) : SS × List Nat := lay n (r + 1) (fin1 (fill r T gl).1 r) (fill r T gl).2
theorem LC_fit {n r : Nat} {T : SS} {o : Nat} {gl : List Nat} (h : us T r + wd T o ≤ 16) : LC n r T (o :: gl) = LC n r (apS T r o) gl := by
  unfold LC
  rw [fill, if_pos h]
theorem LC_not {n r : Nat} {T : SS} {o : Nat} {gl : List Nat} (h : ¬ us T r + wd T o ≤ 16) : LC n r T (o :: gl) = lay n (r + 1) (fin1 T r) (o :: gl) := by
  unfold LC
  rw [fill, if_neg h]
theorem LC_nil {n r : Nat} {T : SS} : LC n r T [] = lay n (r + 1) (fin1 T r) [] := rfl
theorem fin1_e {T : SS} {r : Nat} (h : itm T r = []) : fin1 T r = T := if_pos (by rw [h]; rfl)
theorem lay_nil : ∀ n r (T : SS), (∀ r', r ≤ r' → r' < r + n → big (kd T r') = false → itm T r' = []) → lay n r T [] = (T, [])
  | 0, _, _, _ => rfl
  | n + 1, r, T, h => by
    rw [lay]
    cases e : big (kd T r) with
    | true => rw [if_pos rfl]; exact lay_nil n (r + 1) T (fun r' h1 h2 => h r' (by omega) (by omega))
    | false =>
      rw [if_neg Bool.false_ne_true, show fill r T [] = (T, []) from rfl]
      simp only
      rw [fin1_e (h r (Nat.le_refl _) (by omega) e)]
      exact lay_nil n (r + 1) T (fun r' h1 h2 => h r' (by omega) (by omega))
theorem big_4 {k : Nat} (h : k ≤ 5) : big k = true ↔ 4 ≤ k := by rw [big_iff]; omega
theorem lay_np {T : SS} {gl : List Nat} (hg : gl ≠ []) (K5 : ∀ r, r < 12 → kd T r ≤ 5) : ∀ n x, x + n = 12 → (lay n x T gl).2 = [] → npF (kd T) (11 - x) x < 12 ∧ x ≤ npF (kd T) (11 - x) x ∧ big (kd T (npF (kd T) (11 - x) x)) = false ∧ lay n x T gl = LC (11 - npF (kd T) (11 - x) x) (npF (kd T) (11 - x) x) T gl
  | 0, x, _, h => absurd h hg
  | n + 1, x, hx, h => by
    have k5 := K5 x (by omega)
    rw [lay] at h ⊢
    cases e : big (kd T x) with
    | true =>
      rw [e, if_pos rfl] at h
      rw [if_pos rfl]
      have h4 := (big_4 k5).mp e
      have ih := lay_np hg K5 n (x + 1) (by omega) h
      cases hn : 11 - x with
      | zero =>
        have : n = 0 := by omega
        subst this
        exact absurd h hg
      | succ q =>
        rw [npF, if_pos h4]
        rw [show 11 - (x + 1) = q by omega] at ih
        exact ⟨ih.1, by omega, ih.2.2.1, ih.2.2.2⟩
    | false =>
      rw [if_neg Bool.false_ne_true]
      have h4 : ¬ 4 ≤ kd T x := fun z => by rw [(big_4 k5).mpr z] at e; cases e
      have en : npF (kd T) (11 - x) x = x := by
        cases 11 - x with
        | zero => rfl
        | succ q => rw [npF, if_neg h4]
      rw [en]
      refine ⟨by omega, Nat.le_refl _, e, ?_⟩
      rw [show 11 - x = n by omega]
      rfl
theorem fin1_f (T : SS) (r : Nat) : itm (fin1 T r) = itm T ∧ us (fin1 T r) = us T ∧ hm (fin1 T r) = hm T ∧ so (fin1 T r) = so T ∧ ro (fin1 T r) = ro T ∧ wd (fin1 T r) = wd T ∧ fd (fin1 T r) = fd T ∧ cu (fin1 T r) = cu T ∧ ct (fin1 T r) = ct T := by
  unfold fin1
  split
  · exact ⟨rfl, rfl, rfl, rfl, rfl, rfl, rfl, rfl, rfl⟩
  · exact ⟨rfl, rfl, rfl, rfl, rfl, rfl, rfl, rfl, rfl⟩
theorem fin1_k (T : SS) {r r' : Nat} (h : r' ≠ r) : kd (fin1 T r) r' = kd T r' ∧ lw (fin1 T r) r' = lw T r' := by
  unfold fin1
  split
  · exact ⟨rfl, rfl⟩
  · exact ⟨va_up_ne _ _ h, va_up_ne _ _ h⟩
theorem fin1_ap (T : SS) (r o : Nat) : fin1 (apS T r o) r = olS (apS T r o) r := by
  refine if_neg ?_
  show ¬ (va_up (itm T) r (itm T r ++ [o]) r).length = 0
  rw [va_up_self]
  simp
/-- the queue -/
def MQu (h : AH) (sg : Nat → Nat) (gl : List Nat) : Prop := hI h 3 0 15 = nI gl.length ∧ ∀ i o, gl[i]? = some o → hI h 6 13 i = nI (sg o)
/-- what packing keeps -/
def PK (T : SS) (r : Nat) (gl : List Nat) : Prop := r < 12 ∧ PL T ∧ NW T gl ∧ OP T r ∧ kd T r = 0 ∧ lw T r = none ∧ (∀ r', r' < 12 → r' ≠ r → RI T r') ∧ ∀ r', r < r' → r' < 12 → big (kd T r') = false → kd T r' = 0
theorem PK_w2 {T : SS} {r : Nat} {gl : List Nat} (p : PK T r gl) : ∀ o, o ∈ all T → 2 ≤ wd T o := by
  intro o ho
  obtain ⟨r', hr', hit⟩ := mem_all.mp ho
  by_cases e : r' = r
  · subst e; exact (p.2.2.2.1.2.2 o hit).1
  · obtain ⟨k0, k13, k4, k5, kle⟩ := p.2.2.2.2.2.2.1 r' hr' e
    have hne : itm T r' ≠ [] := fun z => by rw [z] at hit; cases hit
    have h0 : kd T r' ≠ 0 := fun z => hne (k0 z).1
    have h5 : kd T r' ≠ 5 := fun z => hne (k5 z).1
    by_cases h4 : kd T r' = 4
    · obtain ⟨⟨o', e', hw⟩, -, -⟩ := k4 h4
      rw [e'] at hit
      have : o = o' := by simpa using hit
      subst this
      omega
    · exact ((k13 (by omega) (by omega)).2.2.1 o hit).1
theorem PK_ap {T : SS} {r o : Nat} {gl : List Nat} (p : PK T r (o :: gl)) (hf : us T r + wd T o ≤ 16) : PK (apS T r o) r gl := by
  obtain ⟨hr, pl, nw, op, k0, l0, ri, hz⟩ := p
  have hno := nw.2 o List.mem_cons_self
  refine ⟨hr, PL_ap pl hr hno.1 op.1, NW_ap hr nw, OP_ap op hno.2 hf, k0, l0, fun r' hr' hne => ?_, hz⟩
  exact RI_of (ri r' hr' hne) rfl (va_up_ne _ _ hne) rfl (va_up_ne _ _ hne) rfl (fun _ _ => rfl)
theorem PK_fin {T : SS} {r : Nat} {gl : List Nat} (p : PK T r gl) : PL (fin1 T r) ∧ (∀ r', r' < 12 → RI (fin1 T r) r') := by
  obtain ⟨hr, pl, nw, op, k0, l0, ri, hz⟩ := p
  obtain ⟨a, b, -, -, -⟩ := fin1_inv pl op k0 l0 ri
  exact ⟨a, b⟩
theorem PK_next {T : SS} {r y : Nat} {gl : List Nat} (p : PK T r gl) (hy : y < 12) (hry : r < y) (hb : big (kd (fin1 T r) y) = false) : PK (fin1 T r) y gl ∧ itm (fin1 T r) y = [] ∧ us (fin1 T r) y = 0 := by
  obtain ⟨a, b⟩ := PK_fin p
  obtain ⟨hr, pl, nw, op, k0, l0, ri, hz⟩ := p
  have ky : kd (fin1 T r) y = 0 := by
    have e := (fin1_k T (r := r) (r' := y) (by omega)).1
    rw [e] at hb ⊢
    exact hz y hry hy hb
  obtain ⟨i1, i2, i3⟩ := (b y hy).1 ky
  have f := fin1_f T r
  refine ⟨⟨hy, a, ?_, ⟨?_, ?_, ?_⟩, ky, i3, fun r' hr' _ => b r' hr', fun r' h1 h2 h3 => ?_⟩, i1, i2⟩
  · refine ⟨nw.1, fun o ho => ?_⟩
    rw [f.2.2.2.2.2.1, all_eq f.1]
    exact nw.2 o ho
  · rw [i1, i2]; rfl
  · rw [i2]; exact Nat.zero_le _
  · rw [i1]; intro o ho; cases ho
  · have e := (fin1_k T (r := r) (r' := r') (by omega)).1
    rw [e] at h3 ⊢
    exact hz r' (by omega) h2 h3
