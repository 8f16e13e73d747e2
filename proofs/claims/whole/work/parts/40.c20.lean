/-! the invariant of the state -/
def RI (S : SS) (r : Nat) : Prop :=
  (kd S r = 0 → itm S r = [] ∧ us S r = 0 ∧ lw S r = none) ∧
  (1 ≤ kd S r → kd S r ≤ 3 → us S r = sw S (itm S r) ∧ us S r ≤ 16 ∧ (∀ o ∈ itm S r, 2 ≤ wd S o ∧ wd S o ≤ 8) ∧ ∀ x, lw S r = some x → x ≤ 16) ∧
  (kd S r = 4 → (∃ o, itm S r = [o] ∧ 9 ≤ wd S o) ∧ lw S r = none ∧ us S r ≤ 16) ∧
  (kd S r = 5 → itm S r = [] ∧ lw S r = none ∧ us S r ≤ 16 ∧ 0 < r ∧ (kd S (r - 1) = 4 ∨ kd S (r - 1) = 5)) ∧ kd S r ≤ 5
def PL (S : SS) : Prop := ∀ r i o, r < 12 → (itm S r)[i]? = some o → hm S o = r ∧ so S o = sw S ((itm S r).take i)
def IV (S : SS) : Prop := (∀ r, r < 12 → RI S r) ∧ PL S ∧ (∀ i o, i < 6 → ro S i = some o → o ∈ all S) ∧ (∀ o o', o ∈ all S → some o' ∈ fd S o → o' ∈ all S) ∧ (∀ o, o < ct S 3 → 2 ≤ wd S o ∧ wd S o ≤ 40 ∧ (fd S o).length ≤ 3) ∧ (∀ o, o ∈ all S → o < ct S 3) ∧ ∀ r, cu S = some r → r < 12 ∧ kd S r = 1
theorem sw_two {S : SS} : ∀ (l : List Nat), (∀ o ∈ l, 2 ≤ wd S o) → 2 * l.length ≤ sw S l
  | [], _ => Nat.zero_le _
  | o :: l, h => by
    have h1 := sw_two l (fun x hx => h x (List.mem_cons_of_mem _ hx))
    have h2 := h o List.mem_cons_self
    have e : sw S (o :: l) = wd S o + sw S l := by simp [sw]
    rw [e, List.length_cons]
    omega
theorem RI.len {S : SS} {r : Nat} (h : RI S r) : (itm S r).length ≤ 8 ∧ us S r ≤ 16 ∧ ∀ x, lw S r = some x → x ≤ 16 := by
  obtain ⟨h0, h1, h4, h5, hk⟩ := h
  by_cases e0 : kd S r = 0
  · obtain ⟨a, b, c⟩ := h0 e0
    rw [a, b, c]
    exact ⟨by simp, by omega, fun x hx => by cases hx⟩
  · by_cases e1 : kd S r ≤ 3
    · obtain ⟨a, b, c, d⟩ := h1 (by omega) e1
      have := sw_two (S := S) (itm S r) (fun o ho => (c o ho).1)
      exact ⟨by omega, b, d⟩
    · by_cases e4 : kd S r = 4
      · obtain ⟨⟨o, a, -⟩, b, c⟩ := h4 e4
        rw [a, b]
        exact ⟨by simp, c, fun x hx => by cases hx⟩
      · obtain ⟨a, b, c, -⟩ := h5 (by omega)
        rw [a, b]
        exact ⟨by simp, c, fun x hx => by cases hx⟩
theorem IV.bd {S : SS} (v : IV S) : BD S := ⟨fun r hr => ⟨(v.1 r hr).2.2.2.2, Nat.le_trans (v.1 r hr).len.2.1 (by decide), (v.1 r hr).len.1, (v.1 r hr).len.2.2⟩, fun o ho => ⟨(v.2.2.2.2.1 o ho).2.1, (v.2.2.2.2.1 o ho).2.2⟩⟩
theorem IV.w2 {S : SS} (v : IV S) : ∀ o, o ∈ all S → 2 ≤ wd S o := fun o ho => (v.2.2.2.2.1 o (v.2.2.2.2.2.1 o ho)).1
theorem sw_mono {S : SS} {l : List Nat} {i j o : Nat} (ho : l[i]? = some o) (hij : i < j) (hw : 0 < wd S o) : sw S (l.take i) < sw S (l.take j) := by
  have h1 := sw_take (S := S) ho
  have h2 : sw S (l.take (i + 1)) ≤ sw S (l.take j) := by
    have e : l.take j = l.take (i + 1) ++ (l.drop (i + 1)).take (j - (i + 1)) := by
      rw [← List.take_add, Nat.add_sub_cancel' (by omega)]
    rw [e, sw_app]
    omega
  omega
theorem nodup_of : ∀ (l : List Nat), (∀ i j o : Nat, l[i]? = some o → l[j]? = some o → i = j) → l.Nodup
  | [], _ => List.nodup_nil
  | a :: l, h => List.nodup_cons.mpr ⟨fun ha => by
      obtain ⟨i, hi⟩ := List.getElem?_of_mem ha
      have := h 0 (i + 1) a rfl hi
      omega, nodup_of l (fun i j o hi hj => by
      have := h (i + 1) (j + 1) o hi hj
      omega)⟩
theorem it_nodup {S : SS} (p : PL S) {r : Nat} (hr : r < 12) (hw : ∀ o ∈ itm S r, 2 ≤ wd S o) : (itm S r).Nodup := by
  apply nodup_of
  intro i j o hi hj
  have h1 := (p r i o hr hi).2
  have h2 := (p r j o hr hj).2
  have hwo := hw o (List.mem_of_getElem? hi)
  rcases Nat.lt_trichotomy i j with q | q | q
  · have := sw_mono (S := S) hi q (by omega); omega
  · exact q
  · have := sw_mono (S := S) hj q (by omega); omega
theorem flat_nodup {f : Nat → List Nat} {g : Nat → Nat} : ∀ n, (∀ r, r < n → (f r).Nodup ∧ ∀ o ∈ f r, g o = r) → ((List.range n).flatMap f).Nodup
  | 0, _ => by simp
  | n + 1, h => by
    have h1 := flat_nodup n (fun r hr => h r (by omega))
    rw [List.range_succ, List.flatMap_append]
    simp only [List.flatMap_cons, List.flatMap_nil, List.append_nil]
    refine List.nodup_append.mpr ⟨h1, (h n (by omega)).1, fun a ha b hb e => ?_⟩
    subst e
    obtain ⟨r, hr, ha'⟩ := List.mem_flatMap.mp ha
    have hr' := List.mem_range.mp hr
    have e1 := (h r (by omega)).2 a ha'
    have e2 := (h n (by omega)).2 a hb
    omega
theorem PL.hm {S : SS} (p : PL S) {r o : Nat} (hr : r < 12) (ho : o ∈ itm S r) : hm S o = r := by
  obtain ⟨i, hi⟩ := List.getElem?_of_mem ho
  exact (p r i o hr hi).1
theorem IV.cl {S : SS} (v : IV S) : CL S := by
  refine ⟨v.2.2.1, v.2.2.2.1, ?_, fun r o hr ho => v.2.1.hm hr ho⟩
  exact flat_nodup (g := hm S) 12 (fun r hr => ⟨it_nodup v.2.1 hr (fun o ho => v.w2 o (mem_all.mpr ⟨r, hr, ho⟩)), fun o ho => v.2.1.hm hr ho⟩)
theorem IV.free {S : SS} (v : IV S) : ∀ r, r < 12 → kd S r = 0 → itm S r = [] ∧ us S r = 0 := fun r hr h => ⟨((v.1 r hr).1 h).1, ((v.1 r hr).1 h).2.1⟩
theorem chs_sub {S : SS} {bu : Nat} : ∀ n k sp ch, (∀ r, k r = true → cand S r = true) → (∀ r, ch r = true → cand S r = true) → ∀ r, chs S bu n k sp ch r = true → cand S r = true
  | 0, _, _, _, _, hc, r, h => hc r h
  | n + 1, k, sp, ch, hk, hc, r, h => by
    unfold chs at h
    cases hb : bst S k 12 0 none with
    | none => rw [hb] at h; exact hc r h
    | some q =>
      rw [hb] at h
      have hq := bst_ok 12 0 none (fun q hq => by cases hq) (by decide) q hb
      have hk' : ∀ r, va_up k q false r = true → cand S r = true := fun r hr => by
        by_cases e : r = q
        · subst e; rw [va_up_self] at hr; cases hr
        · rw [va_up_ne _ _ e] at hr; exact hk r hr
      simp only at h
      split at h
      · refine chs_sub n _ _ _ hk' (fun r hr => ?_) r h
        by_cases e : r = q
        · subst e; exact hk r hq.2
        · rw [va_up_ne _ _ e] at hr; exact hc r hr
      · exact chs_sub n _ _ _ hk' hc r h
theorem chF_cand {S : SS} {bu r : Nat} (h : chF S bu r = true) : cand S r = true := chs_sub 12 _ _ _ (fun _ h => h) (fun _ h => by cases h) r h
theorem colF_kd {S : SS} {bu r : Nat} (h : colF S (chF S bu) r = true) : 1 ≤ kd S r ∧ kd S r ≤ 3 := by
  unfold colF at h
  simp only [Bool.or_eq_true] at h
  rcases h with (h | h) | h
  · have : kd S r = 1 := of_decide_eq_true h; omega
  · have : kd S r = 2 := of_decide_eq_true h; omega
  · have h2 := chF_cand h
    unfold cand at h2
    simp only [Bool.and_eq_true] at h2
    have : kd S r = 3 := of_decide_eq_true h2.1
    omega
theorem IV.sm {S : SS} (v : IV S) (bu : Nat) : SMc S (colF S (chF S bu)) := by
  intro o ho hc
  obtain ⟨r, hr, h2⟩ := mem_all.mp ho
  rw [v.2.1.hm hr h2] at hc
  obtain ⟨a, b⟩ := colF_kd hc
  exact ((v.1 r hr).2.1 a b).2.2.1 o h2
