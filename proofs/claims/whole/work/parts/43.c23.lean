/-! a collection that copies keeps the invariant -/
def Cov (S : SS) (col : Nat → Bool) (P : PP) (x : Option Nat) : Prop := ∀ o, x = some o → col (hm S o) = true → o ∈ pf P
section CP
variable {S : SS} {col : Nat → Bool}
theorem find1_pre (P : PP) (x : Option Nat) : ∃ l, pf (find1 S col P x) = pf P ++ l := by
  cases x with
  | none => exact ⟨[], (List.append_nil _).symm⟩
  | some o =>
    by_cases hc : (po P && col (hm S o) && (pt P o).isNone) = true
    · have e1 : find1 S col P (some o) = (match (tgF S P (knd S o) (wd S o)).1 with
        | none => bad P
        | some t => plc (tgF S P (knd S o) (wd S o)).2 o t (wd S o)) := if_pos hc
      rw [e1]
      cases ht : (tgF S P (knd S o) (wd S o)).1 with
      | none => exact ⟨[], (List.append_nil _).symm⟩
      | some t => exact ⟨[o], by show pf (tgF S P (knd S o) (wd S o)).2 ++ [o] = _; rw [(tgF_keep S P (knd S o) (wd S o)).1]⟩
    · have e1 : find1 S col P (some o) = P := if_neg hc
      rw [e1]; exact ⟨[], (List.append_nil _).symm⟩
theorem finds_pre : ∀ (l : List (Option Nat)) (P : PP), ∃ m, pf (finds S col P l) = pf P ++ m
  | [], P => ⟨[], (List.append_nil _).symm⟩
  | x :: l, P => by
    obtain ⟨a, ha⟩ := find1_pre (S := S) (col := col) P x
    obtain ⟨b, hb⟩ := finds_pre l (find1 S col P x)
    exact ⟨a ++ b, by show pf (finds S col (find1 S col P x) l) = _; rw [hb, ha, List.append_assoc]⟩
theorem find1_po {P : PP} {x : Option Nat} (h : po (find1 S col P x) = true) : po P = true := by
  cases hp : po P with
  | true => rfl
  | false => rw [find1_bad hp, hp] at h; cases h
theorem finds_po {P : PP} {l : List (Option Nat)} (h : po (finds S col P l) = true) : po P = true := by
  cases hp : po P with
  | true => rfl
  | false => rw [finds_bad hp, hp] at h; cases h
theorem find1_cov {P : PP} (i : PI S col P) {x : Option Nat} (h : po (find1 S col P x) = true) : Cov S col (find1 S col P x) x := by
  intro o ho hcol
  subst ho
  have hp := find1_po h
  by_cases hc : (po P && col (hm S o) && (pt P o).isNone) = true
  · have e1 : find1 S col P (some o) = (match (tgF S P (knd S o) (wd S o)).1 with
      | none => bad P
      | some t => plc (tgF S P (knd S o) (wd S o)).2 o t (wd S o)) := if_pos hc
    rw [e1] at h ⊢
    cases ht : (tgF S P (knd S o) (wd S o)).1 with
    | none => rw [ht] at h; cases h
    | some t =>
      show o ∈ pf (tgF S P (knd S o) (wd S o)).2 ++ [o]
      simp
  · have e1 : find1 S col P (some o) = P := if_neg hc
    rw [e1]
    rw [hp, hcol] at hc
    refine (i.2.2.1 o).mpr ?_
    cases hpt : pt P o with
    | none => rw [hpt] at hc; exact absurd rfl hc
    | some t => rfl
theorem Cov.pre {P P' : PP} {x : Option Nat} (c : Cov S col P x) (h : ∃ l, pf P' = pf P ++ l) : Cov S col P' x := fun o ho hc => by
  obtain ⟨l, e⟩ := h
  rw [e]
  exact List.mem_append_left _ (c o ho hc)
theorem finds_cov (sm : SMc S col) : ∀ (l : List (Option Nat)) (P : PP), PI S col P → (∀ o, some o ∈ l → o ∈ all S) → po (finds S col P l) = true → ∀ x ∈ l, Cov S col (finds S col P l) x
  | [], _, _, _, _, x, hx => by cases hx
  | y :: l, P, i, hm, h, x, hx => by
    have h' : po (finds S col (find1 S col P y) l) = true := h
    have i' := find1_PI i sm y (fun o ho => hm o (ho ▸ List.mem_cons_self))
    rcases List.mem_cons.mp hx with q | q
    · subst q
      exact (find1_cov i (finds_po h')).pre (finds_pre l _)
    · exact finds_cov sm l _ i' (fun o ho => hm o (List.mem_cons_of_mem _ ho)) h' x q
theorem bfsP_pre : ∀ n i (P : PP), ∃ m, pf (bfsP S col n i P) = pf P ++ m
  | 0, _, P => ⟨[], (List.append_nil _).symm⟩
  | n + 1, i, P => by
    unfold bfsP
    cases hi : (pf P)[i]? with
    | none => exact ⟨[], (List.append_nil _).symm⟩
    | some o =>
      obtain ⟨a, ha⟩ := finds_pre (S := S) (col := col) (fd S o) P
      obtain ⟨b, hb⟩ := bfsP_pre n (i + 1) (finds S col P (fd S o))
      exact ⟨a ++ b, by show pf (bfsP S col n (i + 1) (finds S col P (fd S o))) = _; rw [hb, ha, List.append_assoc]⟩
theorem bfsP_po {P : PP} {n i : Nat} (h : po (bfsP S col n i P) = true) : po P = true := by
  cases hp : po P with
  | true => rfl
  | false => rw [bfsP_bad hp, hp] at h; cases h
/-- the search is through: all fields of what was found are covered -/
theorem bfsP_cov (b : BD S) (cl : CL S) (sm : SMc S col) : ∀ n i (P : PP), i + n = 97 → PI S col P → i ≤ (pf P).length → (∀ j o x, j < i → (pf P)[j]? = some o → x ∈ fd S o → Cov S col P x) → po (bfsP S col n i P) = true → PI S col (bfsP S col n i P) ∧ ∀ o x, o ∈ pf (bfsP S col n i P) → x ∈ fd S o → Cov S col (bfsP S col n i P) x
  | 0, i, P, hi, pi, hl, _, _ => by
    have := PI_len b pi
    omega
  | n + 1, i, P, hi, pi, hl, hc, h => by
    unfold bfsP at h ⊢
    cases ho : (pf P)[i]? with
    | none =>
      rw [ho] at h
      refine ⟨pi, fun o x hox hx => ?_⟩
      obtain ⟨j, hj⟩ := List.getElem?_of_mem hox
      have hlt : j < (pf P).length := (List.getElem?_eq_some_iff.mp hj).1
      have hge := List.getElem?_eq_none_iff.mp ho
      exact hc j o x (by omega) hj hx
    | some o =>
      rw [ho] at h
      have hlt := (List.getElem?_eq_some_iff.mp ho).1
      have hoa := (pi.2.1 o (List.mem_of_getElem? ho)).1
      have pi2 := finds_PI sm (fd S o) P pi (fun o' ho' => cl.2.1 o o' hoa ho')
      have hlen := finds_len (S := S) (col := col) (fd S o) P
      refine bfsP_cov b cl sm n (i + 1) _ (by omega) pi2 (by omega) (fun j y x hj hy hx => ?_) h
      obtain ⟨m, hm⟩ := finds_pre (S := S) (col := col) (fd S o) P
      rw [hm, List.getElem?_append_left (by omega)] at hy
      rcases Nat.lt_or_ge j i with q | q
      · exact (hc j y x q hy hx).pre ⟨m, hm⟩
      · obtain rfl : j = i := by omega
        cases ho.symm.trans hy
        exact finds_cov sm _ P pi (fun o' ho' => cl.2.1 o o' hoa ho') (bfsP_po h) x hx
theorem roL_in {S : SS} : ∀ n i k, i ≤ k → k < i + n → ro S k ∈ roL S i n
  | 0, i, k, h1, h2 => by omega
  | n + 1, i, k, h1, h2 => by
    unfold roL
    by_cases e : k = i
    · subst e; exact List.mem_cons_self
    · exact List.mem_cons_of_mem _ (roL_in n (i + 1) k (by omega) (by omega))
theorem stL_in {o : Nat} {x : Option Nat} : ∀ n r r', r ≤ r' → r' < r + n → col r' = false → o ∈ itm S r' → x ∈ fd S o → x ∈ stL S col n r
  | 0, r, r', h1, h2, _, _, _ => by omega
  | n + 1, r, r', h1, h2, hc, ho, hx => by
    unfold stL
    by_cases e : r' = r
    · subst e
      rw [hc, if_neg Bool.false_ne_true]
      exact List.mem_append_left _ (List.mem_flatMap.mpr ⟨o, ho, hx⟩)
    · exact List.mem_append_right _ (stL_in n (r + 1) r' (by omega) (by omega) hc ho hx)
/-- a plan that goes covers what roots hold, what objects that stay hold, what found ones hold -/
theorem plan_ok (b : BD S) (cl : CL S) (sm : SMc S col) (h : po (plan S col) = true) : PI S col (plan S col) ∧ (∀ k, k < 6 → Cov S col (plan S col) (ro S k)) ∧ (∀ r o x, r < 12 → col r = false → o ∈ itm S r → x ∈ fd S o → Cov S col (plan S col) x) ∧ ∀ o x, o ∈ pf (plan S col) → x ∈ fd S o → Cov S col (plan S col) x := by
  have i0 := P0_PI S col
  have i1 := finds_PI sm (roL S 0 6) P0 i0 (roL_mem cl 6 0 rfl)
  have i2 := finds_PI sm (stL S col 12 0) _ i1 (stL_mem cl 12 0 rfl)
  have h2 : po (finds S col (finds S col P0 (roL S 0 6)) (stL S col 12 0)) = true := bfsP_po h
  have h1 := finds_po h2
  obtain ⟨a1, a2⟩ := bfsP_cov b cl sm 97 0 _ rfl i2 (Nat.zero_le _) (fun j _ _ hj => absurd hj (Nat.not_lt_zero j)) h
  refine ⟨a1, fun k hk => ?_, fun r o x hr hc ho hx => ?_, a2⟩
  · have c1 := finds_cov sm (roL S 0 6) P0 i0 (roL_mem cl 6 0 rfl) h1 (ro S k) (roL_in 6 0 k (Nat.zero_le _) (by omega))
    exact (c1.pre (finds_pre _ _)).pre (bfsP_pre _ _ _)
  · have c1 := finds_cov sm (stL S col 12 0) _ i1 (stL_mem cl 12 0 rfl) h2 x (stL_in 12 0 r (Nat.zero_le _) (by omega) hc ho hx)
    exact c1.pre (bfsP_pre _ _ _)
end CP
