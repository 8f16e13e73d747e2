/-! a collection that copies keeps the invariant: the end -/
section CP
variable {S : SS} {col : Nat → Bool}
/-- what carrying out keeps -/
def AI (S : SS) (P : PP) (T : SS) (rest : List Nat) : Prop := PL T ∧ NW T rest ∧ (∀ r, r < 12 → RI T r) ∧ CPk S P T rest ∧ (∀ r, r < 12 → pk P r ≠ 0 → 1 ≤ kd T r ∧ kd T r ≤ 3) ∧ ro T = ro S ∧ fd T = fd S
theorem AI_step {P : PP} {T : SS} {o t : Nat} {l : List Nat} (a : AI S P T (o :: l)) (ht : pt P o = some t) (ht12 : t < 12) (htk : pk P t ≠ 0) : AI S P (apF P T o) l ∧ ∀ x, x ∈ all (apF P T o) ↔ x = o ∨ x ∈ all T := by
  obtain ⟨p, n, ri, q, k, e1, e2⟩ := a
  have e : apF P T o = c2S (apS T t o) (wd T o) := by unfold apF; rw [ht]
  rw [e]
  have ho := n.2 o List.mem_cons_self
  obtain ⟨k1, k2⟩ := k t ht12 htk
  obtain ⟨u1, u2, u3, u4⟩ := (ri t ht12).2.1 k1 k2
  have hq := (q.2.2 t ht12 htk).2
  rw [swt_cons ht, if_pos rfl] at hq
  have ew : wd T o = wd S o := by rw [q.1]
  have op := OP_ap (T := T) (r := t) ⟨u1, u2, u3⟩ ho.2 (by omega)
  refine ⟨⟨PL_ap p ht12 ho.1 u1, NW_ap ht12 n, fun r hr => ?_, CPk_step q ht (by omega), k, e1, e2⟩, fun x => all_ap_iff ht12⟩
  by_cases e3 : r = t
  · subst e3
    refine ⟨fun z => ?_, fun _ _ => ⟨op.1, op.2.1, op.2.2, u4⟩, fun z => ?_, fun z => ?_, (ri r hr).2.2.2.2⟩
    · have z' : kd T r = 0 := z; omega
    · have z' : kd T r = 4 := z; omega
    · have z' : kd T r = 5 := z; omega
  · exact RI_of (ri r hr) rfl (va_up_ne _ _ e3) rfl (va_up_ne _ _ e3) rfl (fun _ _ => rfl)
theorem AI_fold {P : PP} (hp : ∀ o t, pt P o = some t → t < 12 ∧ pk P t ≠ 0) : ∀ (l : List Nat) (T : SS), AI S P T l → (∀ o ∈ l, (pt P o).isSome = true) → AI S P (l.foldl (apF P) T) [] ∧ ∀ x, x ∈ all (l.foldl (apF P) T) ↔ x ∈ l ∨ x ∈ all T
  | [], T, a, _ => ⟨a, fun x => ⟨Or.inr, fun h => h.elim (fun z => by cases z) id⟩⟩
  | o :: l, T, a, h => by
    obtain ⟨t, ht⟩ := Option.isSome_iff_exists.mp (h o List.mem_cons_self)
    obtain ⟨t1, t2⟩ := hp o t ht
    obtain ⟨a1, a2⟩ := AI_step a ht t1 t2
    obtain ⟨b1, b2⟩ := AI_fold hp l _ a1 (fun x hx => h x (List.mem_cons_of_mem _ hx))
    refine ⟨b1, fun x => ?_⟩
    rw [List.foldl_cons, b2 x, a2 x, List.mem_cons]
    constructor
    · rintro (q | q | q)
      · exact Or.inl (Or.inr q)
      · exact Or.inl (Or.inl q)
      · exact Or.inr q
    · rintro ((q | q) | q)
      · exact Or.inr (Or.inl q)
      · exact Or.inl q
      · exact Or.inr (Or.inr q)
end CP
section CQ
variable {S : SS} {col : Nat → Bool} {P : PP}
theorem co_c {r : Nat} (hr : r < 12) (hc : col r = true) : kd (coS S col P 12) r = 0 ∧ us (coS S col P 12) r = 0 ∧ lw (coS S col P 12) r = none ∧ itm (coS S col P 12) r = [] := by
  refine ⟨?_, if_pos ⟨hr, hc⟩, if_pos ⟨hr, hc⟩, if_pos ⟨hr, hc⟩⟩
  show (if r < 12 then (if col r = true then 0 else _) else _) = 0
  rw [if_pos hr, if_pos hc]
theorem co_n {r : Nat} (hr : r < 12) (hc : col r = false) : kd (coS S col P 12) r = (if pk P r = 0 then kd S r else pk P r) ∧ us (coS S col P 12) r = us S r ∧ lw (coS S col P 12) r = lw S r ∧ itm (coS S col P 12) r = itm S r := by
  have hn : ¬ (r < 12 ∧ col r = true) := fun z => by rw [hc] at z; exact Bool.false_ne_true z.2
  refine ⟨?_, if_neg hn, if_neg hn, if_neg hn⟩
  show (if r < 12 then (if col r = true then 0 else _) else _) = _
  rw [if_pos hr, if_neg (by rw [hc]; exact Bool.false_ne_true)]
theorem co_all (v : IV S) {x : Nat} : x ∈ all (coS S col P 12) ↔ x ∈ all S ∧ col (hm S x) = false := by
  constructor
  · intro h
    obtain ⟨r, hr, h2⟩ := mem_all.mp h
    cases hc : col r with
    | true => rw [(co_c hr hc).2.2.2] at h2; cases h2
    | false =>
      rw [(co_n hr hc).2.2.2] at h2
      exact ⟨mem_all.mpr ⟨r, hr, h2⟩, by rw [v.2.1.hm hr h2]; exact hc⟩
  · rintro ⟨h1, h2⟩
    obtain ⟨r, hr, h3⟩ := mem_all.mp h1
    rw [v.2.1.hm hr h3] at h2
    exact mem_all.mpr ⟨r, hr, by rw [(co_n hr h2).2.2.2]; exact h3⟩
theorem co_AI (v : IV S) (hck : ∀ r, r < 12 → col r = true → 1 ≤ kd S r ∧ kd S r ≤ 3) (sm : SMc S col) (i : PI S col P) : AI S P (coS S col P 12) (pf P) := by
  refine ⟨fun r k o hr ho => ?_, ⟨i.1, fun o ho => ?_⟩, fun r hr => ?_, ⟨rfl, rfl, fun r hr hp => ?_⟩, fun r hr hp => ?_, rfl, rfl⟩
  · cases hc : col r with
    | true => rw [(co_c hr hc).2.2.2] at ho; cases ho
    | false =>
      rw [(co_n hr hc).2.2.2] at ho ⊢
      exact v.2.1 r k o hr ho
  · obtain ⟨h1, h2⟩ := i.2.1 o ho
    refine ⟨fun z => ?_, sm o h1 h2⟩
    have := ((co_all v).mp z).2
    rw [h2] at this
    cases this
  · cases hc : col r with
    | true =>
      obtain ⟨a, b, c, d⟩ := co_c (S := S) (P := P) hr hc
      exact ⟨fun _ => ⟨d, b, c⟩, fun z => by omega, fun z => by omega, fun z => by omega, by omega⟩
    | false =>
      obtain ⟨a, b, c, d⟩ := co_n (S := S) (P := P) hr hc
      obtain ⟨p1, p2, p3, p4, p5⟩ := i.2.2.2.2.1 r hr
      by_cases e : pk P r = 0
      · rw [if_pos e] at a
        refine RI_of (v.1 r hr) a b c d rfl (fun e5 z => ?_)
        obtain ⟨-, -, -, h0, -⟩ := (v.1 r hr).2.2.2.1 e5
        have hr1 : r - 1 < 12 := by omega
        have hc1 : col (r - 1) = false := by
          cases hc1 : col (r - 1) with
          | false => rfl
          | true => have := hck _ hr1 hc1; omega
        rw [(co_n hr1 hc1).1, if_pos]
        apply Decidable.byContradiction
        intro z2
        have := (i.2.2.2.2.1 (r - 1) hr1).2.1 z2
        omega
      · rw [if_neg e] at a
        obtain ⟨z1, z2, z3⟩ := (v.1 r hr).1 (p2 e)
        refine ⟨fun z => by omega, fun _ _ => ⟨(by rw [b, d, z1, z2]; rfl), (by rw [b, z2]; exact Nat.zero_le _), fun o ho => (by rw [d, z1] at ho; cases ho), fun x hx => (by rw [c, z3] at hx; cases hx)⟩, fun z => by omega, fun z => by omega, by omega⟩
  · obtain ⟨p1, p2, p3, p4, p5⟩ := i.2.2.2.2.1 r hr
    obtain ⟨z1, z2, z3⟩ := (v.1 r hr).1 (p2 hp)
    have hc : col r = false := by
      cases hc : col r with
      | false => rfl
      | true => have := hck _ hr hc; have := p2 hp; omega
    rw [(co_n hr hc).2.2.2, (co_n hr hc).2.1, z1, z2]
    show 2 * 0 ≤ 0 ∧ 0 + swt S P (pf P) r ≤ 16
    omega
  · obtain ⟨p1, p2, p3, p4, p5⟩ := i.2.2.2.2.1 r hr
    have hc : col r = false := by
      cases hc : col r with
      | false => rfl
      | true => have := hck _ hr hc; have := p2 hp; omega
    rw [(co_n hr hc).1, if_neg hp]
    omega
end CQ
theorem cp_all {S : SS} {col : Nat → Bool} (v : IV S) (hck : ∀ r, r < 12 → col r = true → 1 ≤ kd S r ∧ kd S r ≤ 3) (sm : SMc S col) {P : PP} (i : PI S col P) {x : Nat} : x ∈ all (cpS S col P) ↔ x ∈ pf P ∨ (x ∈ all S ∧ col (hm S x) = false) := by
  have h := (AI_fold i.2.2.2.1 (pf P) _ (co_AI v hck sm i) (fun o ho => (i.2.2.1 o).mp ho)).2 x
  rw [co_all v] at h
  exact h
theorem cp_IV {S : SS} {col : Nat → Bool} (v : IV S) (hck : ∀ r, r < 12 → col r = true → 1 ≤ kd S r ∧ kd S r ≤ 3) (sm : SMc S col) (h : po (plan S col) = true) : IV (cpS S col (plan S col)) := by
  obtain ⟨i, c1, c2, c3⟩ := plan_ok v.bd v.cl sm h
  generalize plan S col = P at i c1 c2 c3 ⊢
  obtain ⟨⟨a1, -, a3, a4, -, a6, a7⟩, -⟩ := AI_fold i.2.2.2.1 (pf P) _ (co_AI v hck sm i) (fun o ho => (i.2.2.1 o).mp ho)
  have e1 : ro (cpS S col P) = ro S := a6
  have e2 : wd (cpS S col P) = wd S := a4.1
  have e3 : fd (cpS S col P) = fd S := a7
  have e4 : ct (cpS S col P) 3 = ct S 3 := a4.2.1
  have sub : ∀ o, o ∈ all (cpS S col P) → o ∈ all S := fun o ho => by
    rcases (cp_all v hck sm i).mp ho with q | q
    · exact (i.2.1 o q).1
    · exact q.1
  have put : ∀ x, x ∈ all S → (col (hm S x) = true → x ∈ pf P) → x ∈ all (cpS S col P) := fun x hx hc => by
    refine (cp_all v hck sm i).mpr ?_
    cases hcx : col (hm S x) with
    | true => exact Or.inl (hc hcx)
    | false => exact Or.inr ⟨hx, rfl⟩
  refine ⟨fun r hr => RI_of (a3 r hr) rfl rfl rfl rfl rfl (fun _ _ => rfl), a1, fun k o hk ho => ?_, fun o o' ho hf => ?_, fun o ho => ?_, fun o ho => ?_, fun r hr => by cases hr⟩
  · rw [e1] at ho
    exact put o (v.2.2.1 k o hk ho) (c1 k hk o ho)
  · rw [e3] at hf
    have hoS := sub o ho
    refine put o' (v.2.2.2.1 o o' hoS hf) ?_
    rcases (cp_all v hck sm i).mp ho with q | q
    · exact c3 o (some o') q hf o' rfl
    · obtain ⟨r, hr, h3⟩ := mem_all.mp hoS
      have hc : col r = false := by rw [← v.2.1.hm hr h3]; exact q.2
      exact c2 r o (some o') hr hc h3 hf o' rfl
  · rw [e2, e3]
    rw [e4] at ho
    exact v.2.2.2.2.1 o ho
  · rw [e4]
    exact v.2.2.2.2.2.1 o (sub o ho)
