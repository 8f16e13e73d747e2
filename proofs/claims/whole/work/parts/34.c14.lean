/-! the plan keeps its invariant -/
theorem fst_ok {p : Nat → Bool} : ∀ n r j, fst p n r = some j → p j = true
  | 0, _, _, h => by cases h
  | n + 1, r, j, h => by
    rw [fst] at h
    by_cases e : p r = true
    · rw [if_pos e] at h; cases h; exact e
    · rw [if_neg e] at h; exact fst_ok n (r + 1) j h
theorem tgF_PI {S : SS} {col : Nat → Bool} {P : PP} (i : PI S col P) {k w t : Nat} (hk : k = 2 ∨ k = 3) (hw : w ≤ 16) (h : (tgF S P k w).1 = some t) : PI S col (tgF S P k w).2 ∧ pk (tgF S P k w).2 t = k ∧ pu (tgF S P k w).2 t + w ≤ 16 ∧ pt (tgF S P k w).2 = pt P := by
  unfold tgF at h ⊢
  cases hf : (pl P k).filter (fun t => decide (pu P t + w ≤ 16)) with
  | some t' =>
    rw [hf] at h
    cases h
    obtain ⟨h1, h2⟩ := Option.filter_eq_some_iff.mp hf
    exact ⟨i, (i.2.2.2.2.2 k hk t h1).2, of_decide_eq_true h2, rfl⟩
  | none =>
    rw [hf] at h
    simp only at h ⊢
    cases hs : fst (frP S P) 12 0 with
    | none => rw [hs] at h; cases h
    | some r =>
      rw [hs] at h
      cases h
      have hr : t < 12 := by have := fst_lt 12 0 t hs; omega
      have h2 := fst_ok 12 0 t hs
      unfold frP at h2
      rw [Bool.and_eq_true] at h2
      have hkd : kd S t = 0 := of_decide_eq_true h2.1
      have hpk : pk P t = 0 := of_decide_eq_true h2.2
      have hpu := (i.2.2.2.2.1 t hr).2.2.1 hpk
      have up : ∀ r', pk P r' ≠ 0 → va_up (pk P) t k r' = pk P r' := fun r' q => va_up_ne _ _ (fun z => q (z ▸ hpk))
      refine ⟨⟨i.1, i.2.1, i.2.2.1, fun o t' ho => ?_, fun r' hr' => ?_, fun k' hk' t' ht' => ?_⟩, va_up_self _ _ _, ?_, rfl⟩
      · obtain ⟨a1, a2⟩ := i.2.2.2.1 o t' ho
        refine ⟨a1, ?_⟩
        show va_up (pk P) t k t' ≠ 0
        rw [up t' a2]
        exact a2
      · obtain ⟨a1, a2, a3, a4, a5⟩ := i.2.2.2.2.1 r' hr'
        show va_up (pk P) t k r' ≤ 3 ∧ (va_up (pk P) t k r' ≠ 0 → kd S r' = 0) ∧ (va_up (pk P) t k r' = 0 → pu P r' = 0) ∧ pu P r' = swt S P (pf P) r' ∧ pu P r' ≤ 16
        by_cases e : r' = t
        · subst e
          rw [va_up_self]
          exact ⟨by omega, fun _ => hkd, fun _ => hpu, a4, a5⟩
        · rw [va_up_ne _ _ e]
          exact ⟨a1, a2, a3, a4, a5⟩
      · have ht2 : va_up (pl P) k (some t) k' = some t' := ht'
        show t' < 12 ∧ va_up (pk P) t k t' = k'
        by_cases e : k' = k
        · subst e
          rw [va_up_self] at ht2
          cases ht2
          exact ⟨hr, va_up_self _ _ _⟩
        · rw [va_up_ne _ _ e] at ht2
          obtain ⟨a1, a2⟩ := i.2.2.2.2.2 k' hk' t' ht2
          refine ⟨a1, ?_⟩
          rw [up t' (by omega)]
          exact a2
      · show pu P t + w ≤ 16
        omega
theorem filter_congr' {l : List Nat} {p q : Nat → Bool} (h : ∀ x ∈ l, p x = q x) : l.filter p = l.filter q := List.filter_congr h
theorem swt_plc {S : SS} {P : PP} {o t w r : Nat} (ho : o ∉ pf P) : swt S (plc P o t w) (pf P ++ [o]) r = swt S P (pf P) r + (if t = r then wd S o else 0) := by
  unfold swt
  rw [List.filter_append, sw_app]
  have e1 : (pf P).filter (fun x => decide (pt (plc P o t w) x = some r)) = (pf P).filter (fun x => decide (pt P x = some r)) := by
    apply List.filter_congr
    intro x hx
    have : pt (plc P o t w) x = pt P x := va_up_ne _ _ (fun z => ho (z ▸ hx))
    rw [this]
  have e2 : pt (plc P o t w) o = some t := va_up_self _ _ _
  rw [e1]
  congr 1
  simp only [List.filter_cons, List.filter_nil, e2]
  by_cases e : t = r
  · simp [e, sw]
  · simp [e, sw]
theorem plc_PI {S : SS} {col : Nat → Bool} {P : PP} (i : PI S col P) {o t k : Nat} (ho : o ∈ all S) (hc : col (hm S o) = true) (hn : pt P o = none) (ht : t < 12) (hpk : pk P t = k) (hk : k = 2 ∨ k = 3) (hu : pu P t + wd S o ≤ 16) : PI S col (plc P o t (wd S o)) := by
  have hnin : o ∉ pf P := fun z => by have := (i.2.2.1 o).mp z; rw [hn] at this; cases this
  refine ⟨?_, fun x hx => ?_, fun x => ?_, fun x t' hx => ?_, fun r hr => ?_, i.2.2.2.2.2⟩
  · exact List.nodup_append.mpr ⟨i.1, by simp, fun a ha b hb => by
      simp at hb
      subst hb
      exact fun z => hnin (z ▸ ha)⟩
  · rcases List.mem_append.mp hx with q | q
    · exact i.2.1 x q
    · simp at q; subst q; exact ⟨ho, hc⟩
  · show x ∈ pf P ++ [o] ↔ (va_up (pt P) o (some t) x).isSome = true
    by_cases e : x = o
    · subst e
      rw [va_up_self]
      simp
    · rw [va_up_ne _ _ e, ← i.2.2.1 x]
      simp [e]
  · have hx' : va_up (pt P) o (some t) x = some t' := hx
    by_cases e : x = o
    · subst e
      rw [va_up_self] at hx'
      cases hx'
      exact ⟨ht, by show pk P t ≠ 0; omega⟩
    · rw [va_up_ne _ _ e] at hx'
      exact i.2.2.2.1 x t' hx'
  · obtain ⟨a1, a2, a3, a4, a5⟩ := i.2.2.2.2.1 r hr
    show pk P r ≤ 3 ∧ (pk P r ≠ 0 → kd S r = 0) ∧ (pk P r = 0 → va_up (pu P) t (pu P t + wd S o) r = 0) ∧ va_up (pu P) t (pu P t + wd S o) r = swt S (plc P o t (wd S o)) (pf P ++ [o]) r ∧ va_up (pu P) t (pu P t + wd S o) r ≤ 16
    rw [swt_plc hnin]
    by_cases e : r = t
    · subst e
      rw [va_up_self, if_pos rfl, ← a4]
      exact ⟨a1, a2, fun z => by omega, rfl, hu⟩
    · rw [va_up_ne _ _ e, if_neg (Ne.symm e), Nat.add_zero]
      exact ⟨a1, a2, a3, a4, a5⟩
/-- objects of regions that are collected are small -/
def SMc (S : SS) (col : Nat → Bool) : Prop := ∀ o, o ∈ all S → col (hm S o) = true → 2 ≤ wd S o ∧ wd S o ≤ 8
theorem find1_PI {S : SS} {col : Nat → Bool} {P : PP} (i : PI S col P) (sm : SMc S col) (x : Option Nat) (hx : ∀ o, x = some o → o ∈ all S) : PI S col (find1 S col P x) := by
  cases x with
  | none => exact i
  | some o =>
    have ho := hx o rfl
    by_cases hc : (po P && col (hm S o) && (pt P o).isNone) = true
    · have e1 : find1 S col P (some o) = (match (tgF S P (knd S o) (wd S o)).1 with
        | none => bad P
        | some t => plc (tgF S P (knd S o) (wd S o)).2 o t (wd S o)) := if_pos hc
      rw [e1]
      simp only [Bool.and_eq_true] at hc
      have hpt : pt P o = none := Option.isNone_iff_eq_none.mp hc.2
      have ek : knd S o = 2 ∨ knd S o = 3 := by unfold knd; split <;> simp
      cases ht : (tgF S P (knd S o) (wd S o)).1 with
      | none => exact i
      | some t =>
        obtain ⟨a1, a2, a3, a4⟩ := tgF_PI i ek (by have := (sm o ho hc.1.2).2; omega) ht
        exact plc_PI a1 ho hc.1.2 (by rw [a4]; exact hpt) (tgF_lt i ek ht) a2 ek a3
    · have e1 : find1 S col P (some o) = P := if_neg hc
      rw [e1]; exact i
def finds (S : SS) (col : Nat → Bool) (P : PP) (l : List (Option Nat)) : PP := l.foldl (find1 S col) P
theorem find1_bad {S : SS} {col : Nat → Bool} {P : PP} (h : po P = false) (x : Option Nat) : find1 S col P x = P := by
  cases x with
  | none => rfl
  | some o => exact if_neg (by rw [h]; exact Bool.false_ne_true)
theorem finds_bad {S : SS} {col : Nat → Bool} {P : PP} (h : po P = false) : ∀ l, finds S col P l = P
  | [] => rfl
  | x :: l => by
    show finds S col (find1 S col P x) l = P
    rw [find1_bad h]
    exact finds_bad h l
theorem finds_app (S : SS) (col : Nat → Bool) (P : PP) (l m : List (Option Nat)) : finds S col P (l ++ m) = finds S col (finds S col P l) m := List.foldl_append
theorem finds_PI {S : SS} {col : Nat → Bool} (sm : SMc S col) : ∀ (l : List (Option Nat)) (P : PP), PI S col P → (∀ o, some o ∈ l → o ∈ all S) → PI S col (finds S col P l)
  | [], _, i, _ => i
  | x :: l, P, i, h => finds_PI sm l _ (find1_PI i sm x (fun o ho => h o (ho ▸ List.mem_cons_self))) (fun o ho => h o (List.mem_cons_of_mem _ ho))
theorem finds_drop {S : SS} {col : Nat → Bool} {P : PP} {l : List (Option Nat)} {f : Nat} {w : Option Nat} (h : l[f]? = some w) : finds S col P (l.drop f) = finds S col (find1 S col P w) (l.drop (f + 1)) := by
  obtain ⟨h1, h2⟩ := List.getElem?_eq_some_iff.mp h
  rw [List.drop_eq_getElem_cons h1, h2]
  rfl
theorem c_planFields {h : AH} {S : SS} {col : Nat → Bool} {P : PP} (c : RC h S) (b : BD S) (cl : CL S) (sm : SMc S col) (p : RP h S col P) (i : PI S col P) (ok : po P = true) {o : Nat} (ho : o ∈ all S) : TT 33 0 [rv 0 (some 0), rv 1 (some o), un] [] h 0 0 (fun x h' => x = some (iv (bI (po (finds S col P (fd S o))))) ∧ RC h' S ∧ RP h' S col (finds S col P (fd S o)) ∧ CF h h') := by
  have holt := c.mlt ho
  have hf3 := b.fd holt
  have loop : ∀ n f h1 P1, f + n = (fd S o).length → RC h1 S → RP h1 S col P1 → PI S col P1 → po P1 = true → finds S col P (fd S o) = finds S col P1 ((fd S o).drop f) → CF h h1 → TT 33 2 [rv 0 (some 0), rv 1 (some o), iv (nI f)] [] h1 0 0 (fun x h' => x = some (iv (bI (po (finds S col P (fd S o))))) ∧ RC h' S ∧ RP h' S col (finds S col P (fd S o)) ∧ CF h h') := by
    intro n
    induction n with
    | zero =>
      intro f h1 P1 hf c1 p1 i1 ok1 he cf
      have e0 : (fd S o).drop f = [] := List.drop_eq_nil_of_le (by omega)
      have e1 : finds S col P (fd S o) = P1 := by rw [he, e0]; rfl
      rw [e1]
      refine r_iload_n 3 d_33_2 rfl rfl ?_
      refine r_aload_n 4 d_33_3 rfl rfl ?_
      refine r_getR 7 1 2 4 (some (14 + o)) d_33_4 rfl fk_0_118 rfl (by decide) (ST.fld c1.st (by rw [c1.c1]; exact holt)) ?_
      refine r_alen 8 4 (nI (fd S o).length) d_33_7 rfl (by decide) (by rw [c1.fl holt]) ?_
      refine r_icmp_ge 32 11 d_33_8 (by decide) rfl (fun c_8 => ?_) (fun c_8 => absurd (nI_le (by omega) (by omega)) c_8)
      refine r_iconst 33 (nI 1) d_33_32 rfl (by decide) ?_
      refine r_zreturn d_33_33 rfl rfl ?_
      exact ⟨by rw [ok1]; rfl, c1, p1, cf⟩
    | succ n ih =>
      intro f h1 P1 hf c1 p1 i1 ok1 he cf
      obtain ⟨w, hw⟩ : ∃ w, (fd S o)[f]? = some w := ⟨_, List.getElem?_eq_getElem (by omega)⟩
      have hwm : ∀ x, w = some x → x ∈ all S := fun x hx => cl.2.1 o x ho (hx ▸ List.mem_of_getElem? hw)
      have e2 := he.trans (finds_drop hw)
      refine r_iload_n 3 d_33_2 rfl rfl ?_
      refine r_aload_n 4 d_33_3 rfl rfl ?_
      refine r_getR 7 1 2 4 (some (14 + o)) d_33_4 rfl fk_0_118 rfl (by decide) (ST.fld c1.st (by rw [c1.c1]; exact holt)) ?_
      refine r_alen 8 4 (nI (fd S o).length) d_33_7 rfl (by decide) (by rw [c1.fl holt]) ?_
      refine r_icmp_ge 32 11 d_33_8 (by decide) rfl (fun c_8 => absurd c_8 (nI_ge (by omega) (by omega))) (fun c_8 => ?_)
      refine r_aload_n 12 d_33_11 rfl rfl ?_
      refine r_aload_n 13 d_33_12 rfl rfl ?_
      refine r_getR 16 1 2 4 (some (14 + o)) d_33_13 rfl fk_0_118 rfl (by decide) (ST.fld c1.st (by rw [c1.c1]; exact holt)) ?_
      refine r_iload_n 17 d_33_16 rfl rfl ?_
      refine r_aald 18 4 1 f w d_33_17 rfl (Or.inl ⟨rfl, rfl⟩) rfl (by rw [c1.fl holt]; omega) (c1.fd holt hw) ?_
      refine r_callV (k1 := 0) (n1 := 0) (k := 0) (n := 0) 21 34 0 [rv 1 w] d_33_18 rfl mk_34 lk_0_162 mv_34 rfl rfl rfl rfl rfl _ (c_planCopy c1 b cl p1 i1 ok1 w hwm) ?_
      intro r_18 h_18 q_18
      obtain ⟨q1, q2, q3, q4⟩ := q_18
      subst q1
      show TT 33 21 [rv 0 (some 0), rv 1 (some o), iv (nI f)] [iv (bI (po (find1 S col P1 w)))] h_18 _ _ _
      refine r_if_ne 26 24 d_33_21 (by decide) rfl (fun c_21 => ?_) (fun c_21 => ?_)
      · skip
        refine r_iinc 29 (nI (f + 1)) [rv 0 (some 0), rv 1 (some o), iv (nI (f + 1))] d_33_26 rfl rfl (nI_1 f) rfl rfl ?_
        refine r_goto 2 d_33_29 (by decide) ?_
        exact ih (f + 1) h_18 _ (by omega) q2 q3 (find1_PI i1 sm w hwm) (bI_1 c_21) e2 (cf.tr q4)
      · skip
        refine r_iconst 25 (nI 0) d_33_24 rfl (by decide) ?_
        refine r_zreturn d_33_25 rfl rfl ?_
        have eb := bI_0 c_21
        rw [e2, finds_bad eb]
        exact ⟨by rw [eb]; rfl, q2, q3, cf.tr q4⟩
  refine r_iconst 1 (nI 0) d_33_0 rfl (by decide) ?_
  refine r_istore_n 2 [rv 0 (some 0), rv 1 (some o), iv (nI 0)] d_33_1 rfl rfl rfl ?_
  exact loop _ 0 h P (Nat.zero_add _) c p i ok rfl (CF.rf h)
