/-! a full collection keeps the invariant: the end -/
def ckF (S : SS) (fl : List Nat) (r : Nat) : List Nat := if big (kd S r) = true then [] else (itm S r).filter (rin fl)
theorem tuL_flat (S : SS) (fl : List Nat) : ∀ n, tuL S fl n = (List.range n).flatMap (ckF S fl)
  | 0 => rfl
  | n + 1 => by
    rw [tuL, tuL_flat S fl n, List.range_succ, List.flatMap_append]
    simp only [List.flatMap_cons, List.flatMap_nil, List.append_nil]
    rfl
theorem cat_end (ck : Nat → List Nat) : ∀ n r, cat ck (n + 1) r = cat ck n r ++ ck (r + n)
  | 0, r => by simp [cat]
  | n + 1, r => by
    rw [cat, cat_end ck n (r + 1), ← List.append_assoc]
    rw [show r + 1 + n = r + (n + 1) by omega]
    rfl
theorem tuL_cat (S : SS) (fl : List Nat) : ∀ n, tuL S fl n = cat (ckF S fl) n 0
  | 0 => rfl
  | n + 1 => by
    rw [tuL, tuL_cat S fl n, cat_end, Nat.zero_add]
    rfl
theorem gone_no {S : SS} {fl : List Nat} {r : Nat} (hr : r < 12) (h : gone S fl 12 r = false) : big (kd S r) = true ∧ stay S fl (r + 1) = true := by
  unfold gone at h
  rw [decide_eq_true hr, Bool.true_and, Bool.or_eq_false_iff] at h
  exact ⟨by simpa using h.1, by simpa using h.2⟩
theorem big_iff {k : Nat} : big k = true ↔ k = 4 ∨ k = 5 := by unfold big; simp
theorem not_big {k : Nat} (h : big k = false) : ¬ (k = 4 ∨ k = 5) := of_decide_eq_false h
section TU
variable {S : SS} {fl : List Nat}
theorem tu_g {r : Nat} (h : gone S fl 12 r = true) : kd (tuS S fl 12) r = 0 ∧ us (tuS S fl 12) r = 0 ∧ lw (tuS S fl 12) r = none ∧ itm (tuS S fl 12) r = [] := ⟨if_pos h, if_pos h, if_pos h, if_pos h⟩
theorem tu_n {r : Nat} (h : gone S fl 12 r = false) : kd (tuS S fl 12) r = kd S r ∧ us (tuS S fl 12) r = us S r ∧ lw (tuS S fl 12) r = lw S r ∧ itm (tuS S fl 12) r = itm S r := by
  have h' : ¬ gone S fl 12 r = true := by rw [h]; exact Bool.false_ne_true
  exact ⟨if_neg h', if_neg h', if_neg h', if_neg h'⟩
theorem tu_RI (v : IV S) {r : Nat} (hr : r < 12) : RI (tuS S fl 12) r := by
  cases hg : gone S fl 12 r with
  | true =>
    obtain ⟨a, b, c, d⟩ := tu_g hg
    exact ⟨fun _ => ⟨d, b, c⟩, fun z => by omega, fun z => by omega, fun z => by omega, by omega⟩
  | false =>
    obtain ⟨a, b, c, d⟩ := tu_n hg
    obtain ⟨h1, h2⟩ := gone_no hr hg
    refine RI_of (v.1 r hr) a b c d rfl (fun e5 z => ?_)
    obtain ⟨-, -, -, h0, -⟩ := (v.1 r hr).2.2.2.1 e5
    have e1 : stay S fl (r + 1) = stay S fl r := by
      show (if kd S r = 4 then _ else stay S fl r) = _
      rw [if_neg (by omega)]
    have e2 : gone S fl 12 (r - 1) = false := by
      unfold gone
      rw [show r - 1 + 1 = r by omega, ← e1, h2, big_iff.mpr z]
      simp
    exact (tu_n e2).1
theorem tu_PL (v : IV S) : PL (tuS S fl 12) := by
  intro r i o hr ho
  cases hg : gone S fl 12 r with
  | true => rw [(tu_g hg).2.2.2] at ho; cases ho
  | false =>
    rw [(tu_n hg).2.2.2] at ho ⊢
    exact v.2.1 r i o hr ho
theorem tu_mem (v : IV S) {x : Nat} : x ∈ all (tuS S fl 12) ↔ x ∈ all S ∧ x ∈ fl ∧ big (kd S (hm S x)) = true := by
  constructor
  · intro h
    obtain ⟨r, hr, h2⟩ := mem_all.mp h
    cases hg : gone S fl 12 r with
    | true => rw [(tu_g hg).2.2.2] at h2; cases h2
    | false =>
      rw [(tu_n hg).2.2.2] at h2
      obtain ⟨g1, g2⟩ := gone_no hr hg
      refine ⟨mem_all.mpr ⟨r, hr, h2⟩, ?_, by rw [v.2.1.hm hr h2]; exact g1⟩
      rcases big_iff.mp g1 with e4 | e5
      · obtain ⟨⟨o, ho, -⟩, -⟩ := (v.1 r hr).2.2.1 e4
        rw [ho] at h2
        simp at h2
        subst h2
        have e : stay S fl (r + 1) = decide (0 < swr S fl r) := by
          show (if kd S r = 4 then decide (0 < swr S fl r) else _) = _
          rw [if_pos e4]
        rw [e] at g2
        have g3 := of_decide_eq_true g2
        unfold swr at g3
        rw [ho] at g3
        by_cases hx : x ∈ fl
        · exact hx
        · simp [rin, hx, sw] at g3
      · rw [((v.1 r hr).2.2.2.1 e5).1] at h2
        cases h2
  · rintro ⟨h1, h2, h3⟩
    obtain ⟨r, hr, h4⟩ := mem_all.mp h1
    rw [v.2.1.hm hr h4] at h3
    rcases big_iff.mp h3 with e4 | e5
    · obtain ⟨⟨o, ho, hw⟩, -⟩ := (v.1 r hr).2.2.1 e4
      have hxo : x = o := by rw [ho] at h4; simpa using h4
      subst hxo
      have e : stay S fl (r + 1) = decide (0 < swr S fl r) := by
        show (if kd S r = 4 then decide (0 < swr S fl r) else _) = _
        rw [if_pos e4]
      have hs : 0 < swr S fl r := by
        unfold swr
        rw [ho]
        simp [rin, h2, sw]
        omega
      have hg : gone S fl 12 r = false := by
        unfold gone
        rw [e, decide_eq_true hs, h3]
        simp
      exact mem_all.mpr ⟨r, hr, by rw [(tu_n hg).2.2.2]; exact h4⟩
    · rw [((v.1 r hr).2.2.2.1 e5).1] at h4
      cases h4
theorem gl_mem (v : IV S) {x : Nat} : x ∈ tuL S fl 12 ↔ x ∈ all S ∧ x ∈ fl ∧ big (kd S (hm S x)) = false := by
  rw [tuL_flat, List.mem_flatMap]
  constructor
  · rintro ⟨r, hr, h⟩
    have hr' := List.mem_range.mp hr
    unfold ckF at h
    split at h
    · cases h
    · next hb =>
      obtain ⟨h1, h2⟩ := List.mem_filter.mp h
      exact ⟨mem_all.mpr ⟨r, hr', h1⟩, of_decide_eq_true h2, by rw [v.2.1.hm hr' h1]; simpa using hb⟩
  · rintro ⟨h1, h2, h3⟩
    obtain ⟨r, hr, h4⟩ := mem_all.mp h1
    rw [v.2.1.hm hr h4] at h3
    refine ⟨r, List.mem_range.mpr hr, ?_⟩
    unfold ckF
    rw [h3, if_neg Bool.false_ne_true]
    exact List.mem_filter.mpr ⟨h4, decide_eq_true h2⟩
theorem gl_NW (v : IV S) : NW (tuS S fl 12) (tuL S fl 12) := by
  refine ⟨?_, fun o ho => ?_⟩
  · rw [tuL_flat]
    refine flat_nodup (g := hm S) 12 (fun r hr => ⟨?_, fun o ho => ?_⟩)
    · unfold ckF
      split
      · exact List.nodup_nil
      · exact List.Pairwise.filter _ (it_nodup v.2.1 hr (fun o ho => v.w2 o (mem_all.mpr ⟨r, hr, ho⟩)))
    · unfold ckF at ho
      split at ho
      · cases ho
      · exact v.2.1.hm hr (List.mem_filter.mp ho).1
  · obtain ⟨h1, h2, h3⟩ := (gl_mem v).mp ho
    refine ⟨fun z => ?_, ?_⟩
    · have := ((tu_mem v).mp z).2.2
      rw [h3] at this
      cases this
    · obtain ⟨r, hr, h4⟩ := mem_all.mp h1
      rw [v.2.1.hm hr h4] at h3
      have hk := (v.1 r hr).2.2.2.2
      have hn := not_big h3
      by_cases e0 : kd S r = 0
      · rw [((v.1 r hr).1 e0).1] at h4; cases h4
      · exact ((v.1 r hr).2.1 (by omega) (by omega)).2.2.1 o h4
theorem sw_filter (S : SS) (p : Nat → Bool) : ∀ l, sw S (l.filter p) ≤ sw S l
  | [] => Nat.le_refl _
  | o :: l => by
    have h := sw_filter S p l
    have e : sw S (o :: l) = wd S o + sw S l := by simp [sw]
    rw [List.filter_cons, e]
    split
    · have e2 : sw S (o :: l.filter p) = wd S o + sw S (l.filter p) := by simp [sw]
      rw [e2]; omega
    · omega
theorem ful_room (v : IV S) : (lay 12 0 (tuS S fl 12) (tuL S fl 12)).2 = [] := by
  refine lay_room (ckF S fl) 12 0 _ _ (fun r _ hr => ?_) ⟨[], by rw [List.nil_append, tuL_cat]⟩
  have hr' : r < 12 := by omega
  constructor
  · intro hb
    cases hg : gone S fl 12 r with
    | true => rw [(tu_g hg).1] at hb; cases hb
    | false =>
      unfold ckF
      rw [(gone_no hr' hg).1, if_pos rfl]
  · intro hb
    cases hg : gone S fl 12 r with
    | false =>
      rw [(tu_n hg).1, (gone_no hr' hg).1] at hb
      cases hb
    | true =>
      refine ⟨(tu_g hg).2.1, ?_⟩
      show sw S (ckF S fl r) ≤ 16
      unfold ckF
      split
      · exact Nat.zero_le _
      · next hb2 =>
        have h1 := sw_filter S (rin fl) (itm S r)
        have hk := (v.1 r hr').2.2.2.2
        have hn := not_big (k := kd S r) (by simpa using hb2)
        by_cases e0 : kd S r = 0
        · rw [((v.1 r hr').1 e0).1]; exact Nat.zero_le _
        · obtain ⟨a, b, -⟩ := (v.1 r hr').2.1 (by omega) (by omega)
          omega
theorem ful_all (v : IV S) {x : Nat} : x ∈ all (fulS S fl) ↔ x ∈ all S ∧ x ∈ fl := by
  have h := (lay_inv 12 0 (tuS S fl 12) (tuL S fl 12) rfl (tu_PL v) (gl_NW v) (fun r hr => tu_RI v hr) (fun r _ hr hb => by
    cases hg : gone S fl 12 r with
    | true => exact (tu_g hg).1
    | false => rw [(tu_n hg).1, (gone_no hr hg).1] at hb; cases hb)).2.2.2 x
  rw [ful_room v] at h
  have e : all (fulS S fl) = all (lay 12 0 (tuS S fl 12) (tuL S fl 12)).1 := rfl
  rw [e]
  rw [tu_mem v, gl_mem v] at h
  constructor
  · intro z
    rcases h.mp (Or.inl z) with q | q
    · exact ⟨q.1, q.2.1⟩
    · exact ⟨q.1, q.2.1⟩
  · rintro ⟨z1, z2⟩
    have : x ∈ all (lay 12 0 (tuS S fl 12) (tuL S fl 12)).1 ∨ x ∈ [] := h.mpr (by
      cases hb : big (kd S (hm S x)) with
      | true => exact Or.inl ⟨z1, z2, rfl⟩
      | false => exact Or.inr ⟨z1, z2, rfl⟩)
    rcases this with q | q
    · exact q
    · cases q
theorem ful_IV (v : IV S) (rl : RL S fl) : IV (fulS S fl) := by
  obtain ⟨a1, a2, a3, -⟩ := lay_inv 12 0 (tuS S fl 12) (tuL S fl 12) rfl (tu_PL v) (gl_NW v) (fun r hr => tu_RI v hr) (fun r _ hr hb => by
    cases hg : gone S fl 12 r with
    | true => exact (tu_g hg).1
    | false => rw [(tu_n hg).1, (gone_no hr hg).1] at hb; cases hb)
  have e1 : ro (fulS S fl) = ro S := a3.1
  have e2 : wd (fulS S fl) = wd S := a3.2.1
  have e3 : fd (fulS S fl) = fd S := a3.2.2.1
  have e4 : ct (fulS S fl) 3 = ct S 3 := congrFun a3.2.2.2.2 3
  refine ⟨fun r hr => RI_of (a2 r hr) rfl rfl rfl rfl rfl (fun _ _ => rfl), a1, fun i o hi ho => ?_, fun o o' ho hf => ?_, fun o ho => ?_, fun o ho => ?_, fun r hr => by cases hr⟩
  · rw [e1] at ho
    have h := v.2.2.1 i o hi ho
    exact (ful_all v).mpr ⟨h, (rl.2.2 o).mpr (Rch.root hi ho)⟩
  · rw [e3] at hf
    obtain ⟨h1, h2⟩ := (ful_all v).mp ho
    exact (ful_all v).mpr ⟨v.2.2.2.1 o o' h1 hf, (rl.2.2 o').mpr (((rl.2.2 o).mp h2).step hf)⟩
  · rw [e2, e3]
    rw [e4] at ho
    exact v.2.2.2.2.1 o ho
  · rw [e4]
    exact v.2.2.2.2.2.1 o ((ful_all v).mp ho).1
end TU
