/-! contracts of the class: roots and fields, questions -/
/-- what a root holds; nothing where there is no such root -/
def hel (S : SS) (a : Int32) : Option Nat := (ix 6 a).bind (ro S)
theorem hel_RC {h : AH} {S : SS} (c : RC h S) (a : Int32) : (ix 6 a).bind (hR h 4 12) = hel S a := by
  unfold hel
  cases e : ix 6 a with
  | none => rfl
  | some i => exact c.ro (ix_some (by decide) e).1
theorem k_heldBy {h : AH} {S : SS} (c : RC h S) (a : Int32) : TT 22 0 [rv 0 (some 0), iv a] [] h 0 0 (fun x h' => h' = h ∧ x = some (rv 1 (hel S a))) := by
  have z := c_heldBy h a c.st
  rw [hel_RC c] at z
  exact z
theorem hel_mem {S : SS} (cl : CL S) {a : Int32} {o : Nat} (h : hel S a = some o) : o ∈ all S := by
  unfold hel at h
  cases e : ix 6 a with
  | none => rw [e] at h; cases h
  | some i => rw [e] at h; exact cl.1 i o (ix_some (by decide) e).1 h
def fdS (S : SS) (o f : Nat) (v : Option Nat) : SS := mkS (kd S) (us S) (lw S) (itm S) (ro S) (wd S) (va_up (fd S) o ((fd S o).set f v)) (hm S) (so S) (cu S) (ct S)
theorem rc_fd {h : AH} {S : SS} (c : RC h S) {o f : Nat} (ho : o < ct S 3) (v : Option Nat) : RC (sR h 4 (14 + o) f v) (fdS S o f v) := by
  refine ⟨ST_sR c.st rfl, fun r hr => ⟨c.kd hr, c.us hr, c.lw hr, c.ic hr, fun j x hx => ⟨?_, c.ilt hr hx⟩⟩, c.2.2.1, fun o' ho' => ⟨c.no ho', c.wd ho', ?_, fun g u hg => ?_⟩, c.2.2.2.2.1, fun j hj => ?_, c.2.2.2.2.2.2⟩
  · rw [hR_ne (by omega)]; exact c.it hr hx
  · show hL h 4 (14 + o') = (va_up (fd S) o ((fd S o).set f v) o').length
    by_cases e : o' = o
    · subst e
      rw [va_up_self, List.length_set]; exact c.fl ho'
    · rw [va_up_ne _ _ e]; exact c.fl ho'
  · have hg' : (va_up (fd S) o ((fd S o).set f v) o')[g]? = some u := hg
    by_cases e : o' = o
    · subst e
      rw [va_up_self] at hg'
      by_cases e2 : g = f
      · subst e2
        rw [hR_at]
        rw [List.getElem?_set] at hg'
        simp only [if_true] at hg'
        split at hg'
        · cases hg'; rfl
        · cases hg'
      · rw [List.getElem?_set_ne (Ne.symm e2)] at hg'
        rw [hR_nk e2]
        exact c.fd ho' hg'
    · rw [va_up_ne _ _ e] at hg'
      rw [hR_ne (by omega)]
      exact c.fd ho' hg'
  · rw [hR_ne (by omega)]; exact c.ro hj
/-- link: may it, and what it does -/
def lkO (S : SS) (a b d : Int32) : Option (Nat × Nat) := match hel S a with
  | none => none
  | some o => match ix (fd S o).length b with
    | none => none
    | some f => if (decide (d = -1) || (ix 6 d).isSome) = true then some (o, f) else none
def lkS (S : SS) (a b d : Int32) : SS := match lkO S a b d with
  | none => S
  | some q => fdS S q.1 q.2 (hel S d)
theorem c_link {h : AH} {S : SS} (c : RC h S) (v : IV S) (a b d : Int32) : TT 19 0 [rv 0 (some 0), iv a, iv b, iv d, un] [] h 0 0 (fun x h' => x = some (iv (bI (lkO S a b d).isSome)) ∧ RC h' (lkS S a b d) ∧ CF h h') := by
  cases e1 : hel S a with
  | none =>
    have e0 : lkO S a b d = none := by unfold lkO; rw [e1]
    have e9 : lkS S a b d = S := by unfold lkS; rw [e0]
    rw [e9, e0]
    refine r_aload_n 1 d_19_0 rfl rfl ?_
    refine r_iload_n 2 d_19_1 rfl rfl ?_
    refine r_callV (k1 := 0) (n1 := 0) (k := 0) (n := 0) 5 22 0 [iv a] d_19_2 rfl mk_22 lk_0_108 mv_22 rfl rfl rfl rfl rfl _ (k_heldBy c a) ?_
    intro r_2 h_2 q_2
    obtain ⟨q1, q2⟩ := q_2
    rw [e1] at q2
    subst q2
    rw [q1]
    show TT 19 5 [rv 0 (some 0), iv a, iv b, iv d, un] [rv 1 none] h _ _ _
    refine r_astore 7 [rv 0 (some 0), iv a, iv b, iv d, rv 1 none] d_19_5 rfl rfl rfl ?_
    refine r_aload 9 d_19_7 rfl rfl ?_
    refine r_ifnull 28 12 d_19_9 (by decide) rfl (fun c_9 => ?_) (fun i_9 c_9 => absurd c_9 (by simp))
    refine r_iconst 29 (nI 0) d_19_28 rfl (by decide) ?_
    refine r_zreturn d_19_29 rfl rfl ?_
    exact ⟨rfl, c, CF.rf h⟩
  | some o =>
    have hoa := hel_mem v.cl e1
    have holt := c.mlt hoa
    have hl3 := v.bd.fd holt
    have efl := c.fl holt
    have hfl31 : hL h 4 (14 + o) < 2 ^ 31 := by rw [efl]; omega
    cases e2 : ix (fd S o).length b with
    | none =>
      have e0 : lkO S a b d = none := by unfold lkO; simp only [e1, e2]
      have e9 : lkS S a b d = S := by unfold lkS; rw [e0]
      rw [e9, e0]
      refine r_aload_n 1 d_19_0 rfl rfl ?_
      refine r_iload_n 2 d_19_1 rfl rfl ?_
      refine r_callV (k1 := 0) (n1 := 0) (k := 0) (n := 0) 5 22 0 [iv a] d_19_2 rfl mk_22 lk_0_108 mv_22 rfl rfl rfl rfl rfl _ (k_heldBy c a) ?_
      intro r_2 h_2 q_2
      obtain ⟨q1, q2⟩ := q_2
      rw [e1] at q2
      subst q2
      rw [q1]
      show TT 19 5 [rv 0 (some 0), iv a, iv b, iv d, un] [rv 1 (some o)] h _ _ _
      refine r_astore 7 [rv 0 (some 0), iv a, iv b, iv d, rv 1 (some o)] d_19_5 rfl rfl rfl ?_
      refine r_aload 9 d_19_7 rfl rfl ?_
      refine r_ifnull 28 12 d_19_9 (by decide) rfl (fun c_9 => absurd c_9 (by simp)) (fun i_9 c_9 => ?_)
      refine r_aload 14 d_19_12 rfl rfl ?_
      refine r_iload_n 15 d_19_14 rfl rfl ?_
      refine r_callV (k1 := 0) (n1 := 0) (k := 0) (n := 0) 18 1 1 [iv b] d_19_15 rfl mk_1 lk_0_112 mv_1 rfl rfl rfl rfl rfl _ (c_hasField h o b c.st (by rw [c.c1]; exact holt) hfl31) ?_
      intro r_15 h_15 q_15
      obtain ⟨q3, q4⟩ := q_15
      rw [efl, e2] at q4
      subst q4
      rw [q3]
      show TT 19 18 [rv 0 (some 0), iv a, iv b, iv d, rv 1 (some o)] [iv (bI (none : Option Nat).isSome)] h _ _ _
      refine r_if_eq 28 21 d_19_18 (by decide) rfl (fun c_18 => ?_) (fun c_18 => absurd rfl c_18)
      refine r_iconst 29 (nI 0) d_19_28 rfl (by decide) ?_
      refine r_zreturn d_19_29 rfl rfl ?_
      exact ⟨rfl, c, CF.rf h⟩
    | some f =>
      obtain ⟨hf, rfl⟩ := ix_some (by omega) e2
      cases e3 : (decide (d = -1) || (ix 6 d).isSome) with
      | false =>
        have e0 : lkO S a (nI f) d = none := by unfold lkO; simp only [e1, e2, e3]; rfl
        have e9 : lkS S a (nI f) d = S := by unfold lkS; rw [e0]
        rw [e9, e0]
        refine r_aload_n 1 d_19_0 rfl rfl ?_
        refine r_iload_n 2 d_19_1 rfl rfl ?_
        refine r_callV (k1 := 0) (n1 := 0) (k := 0) (n := 0) 5 22 0 [iv a] d_19_2 rfl mk_22 lk_0_108 mv_22 rfl rfl rfl rfl rfl _ (k_heldBy c a) ?_
        intro r_2 h_2 q_2
        obtain ⟨q1, q2⟩ := q_2
        rw [e1] at q2
        subst q2
        rw [q1]
        show TT 19 5 [rv 0 (some 0), iv a, iv (nI f), iv d, un] [rv 1 (some o)] h _ _ _
        refine r_astore 7 [rv 0 (some 0), iv a, iv (nI f), iv d, rv 1 (some o)] d_19_5 rfl rfl rfl ?_
        refine r_aload 9 d_19_7 rfl rfl ?_
        refine r_ifnull 28 12 d_19_9 (by decide) rfl (fun c_9 => absurd c_9 (by simp)) (fun i_9 c_9 => ?_)
        refine r_aload 14 d_19_12 rfl rfl ?_
        refine r_iload_n 15 d_19_14 rfl rfl ?_
        refine r_callV (k1 := 0) (n1 := 0) (k := 0) (n := 0) 18 1 1 [iv (nI f)] d_19_15 rfl mk_1 lk_0_112 mv_1 rfl rfl rfl rfl rfl _ (c_hasField h o (nI f) c.st (by rw [c.c1]; exact holt) hfl31) ?_
        intro r_15 h_15 q_15
        obtain ⟨q3, q4⟩ := q_15
        rw [efl, e2] at q4
        subst q4
        rw [q3]
        show TT 19 18 [rv 0 (some 0), iv a, iv (nI f), iv d, rv 1 (some o)] [iv (bI (some f).isSome)] h _ _ _
        refine r_if_eq 28 21 d_19_18 (by decide) rfl (fun c_18 => absurd c_18 bI_t0) (fun c_18 => ?_)
        refine r_iload_n 22 d_19_21 rfl rfl ?_
        refine r_callS (k1 := 0) (n1 := 0) (k := 0) (n := 0) 25 24 [iv d] d_19_22 rfl mk_24 lk_0_115 mv_24 rfl rfl rfl rfl _ (c_isRootOrNull h d) ?_
        intro r_22 h_22 q_22
        obtain ⟨q5, q6⟩ := q_22
        rw [e3] at q6
        subst q6
        rw [q5]
        show TT 19 25 [rv 0 (some 0), iv a, iv (nI f), iv d, rv 1 (some o)] [iv (bI false)] h _ _ _
        refine r_if_ne 30 28 d_19_25 (by decide) rfl (fun c_25 => absurd c_25 (fun z => z rfl)) (fun c_25 => ?_)
        refine r_iconst 29 (nI 0) d_19_28 rfl (by decide) ?_
        refine r_zreturn d_19_29 rfl rfl ?_
        exact ⟨rfl, c, CF.rf h⟩
      | true =>
        have e0 : lkO S a (nI f) d = some (o, f) := by unfold lkO; simp only [e1, e2, e3]; rfl
        have e9 : lkS S a (nI f) d = fdS S o f (hel S d) := by unfold lkS; rw [e0]
        rw [e9, e0]
        refine r_aload_n 1 d_19_0 rfl rfl ?_
        refine r_iload_n 2 d_19_1 rfl rfl ?_
        refine r_callV (k1 := 0) (n1 := 0) (k := 0) (n := 0) 5 22 0 [iv a] d_19_2 rfl mk_22 lk_0_108 mv_22 rfl rfl rfl rfl rfl _ (k_heldBy c a) ?_
        intro r_2 h_2 q_2
        obtain ⟨q1, q2⟩ := q_2
        rw [e1] at q2
        subst q2
        rw [q1]
        show TT 19 5 [rv 0 (some 0), iv a, iv (nI f), iv d, un] [rv 1 (some o)] h _ _ _
        refine r_astore 7 [rv 0 (some 0), iv a, iv (nI f), iv d, rv 1 (some o)] d_19_5 rfl rfl rfl ?_
        refine r_aload 9 d_19_7 rfl rfl ?_
        refine r_ifnull 28 12 d_19_9 (by decide) rfl (fun c_9 => absurd c_9 (by simp)) (fun i_9 c_9 => ?_)
        refine r_aload 14 d_19_12 rfl rfl ?_
        refine r_iload_n 15 d_19_14 rfl rfl ?_
        refine r_callV (k1 := 0) (n1 := 0) (k := 0) (n := 0) 18 1 1 [iv (nI f)] d_19_15 rfl mk_1 lk_0_112 mv_1 rfl rfl rfl rfl rfl _ (c_hasField h o (nI f) c.st (by rw [c.c1]; exact holt) hfl31) ?_
        intro r_15 h_15 q_15
        obtain ⟨q3, q4⟩ := q_15
        rw [efl, e2] at q4
        subst q4
        rw [q3]
        show TT 19 18 [rv 0 (some 0), iv a, iv (nI f), iv d, rv 1 (some o)] [iv (bI (some f).isSome)] h _ _ _
        refine r_if_eq 28 21 d_19_18 (by decide) rfl (fun c_18 => absurd c_18 bI_t0) (fun c_18 => ?_)
        refine r_iload_n 22 d_19_21 rfl rfl ?_
        refine r_callS (k1 := 0) (n1 := 0) (k := 0) (n := 0) 25 24 [iv d] d_19_22 rfl mk_24 lk_0_115 mv_24 rfl rfl rfl rfl _ (c_isRootOrNull h d) ?_
        intro r_22 h_22 q_22
        obtain ⟨q5, q6⟩ := q_22
        rw [e3] at q6
        subst q6
        rw [q5]
        show TT 19 25 [rv 0 (some 0), iv a, iv (nI f), iv d, rv 1 (some o)] [iv (bI true)] h _ _ _
        refine r_if_ne 30 28 d_19_25 (by decide) rfl (fun c_25 => ?_) (fun c_25 => absurd c_25 bI_t0)
        refine r_aload 32 d_19_30 rfl rfl ?_
        refine r_getR 35 1 2 4 (some (14 + o)) d_19_32 rfl fk_0_118 rfl (by decide) (ST.fld c.st (by rw [c.c1]; exact holt)) ?_
        refine r_iload_n 36 d_19_35 rfl rfl ?_
        refine r_aload_n 37 d_19_36 rfl rfl ?_
        refine r_iload_n 38 d_19_37 rfl rfl ?_
        refine r_callV (k1 := 0) (n1 := 0) (k := 0) (n := 0) 41 22 0 [iv d] d_19_38 rfl mk_22 lk_0_108 mv_22 rfl rfl rfl rfl rfl _ (k_heldBy c d) ?_
        intro r_38 h_38 q_38
        obtain ⟨q1, q2⟩ := q_38
        subst q2
        rw [q1]
        show TT 19 41 [rv 0 (some 0), iv a, iv (nI f), iv d, rv 1 (some o)] [rv 1 (hel S d), iv (nI f), rv 4 (some (14 + o))] h _ _ _
        refine r_aast 42 4 1 f d_19_41 rfl (Or.inl ⟨rfl, rfl⟩) rfl (by rw [efl]; exact hf) ?_
        refine r_iconst 43 (nI 1) d_19_42 rfl (by decide) ?_
        refine r_zreturn d_19_43 rfl rfl ?_
        exact ⟨rfl, rc_fd c holt _, CF_sR (CF.rf h) rfl⟩
/-- load: may it, and what comes into the root -/
def ldO (S : SS) (a b d : Int32) : Option (Nat × Option Nat) := match ix 6 a with
  | none => none
  | some i => match hel S b with
    | none => none
    | some o => match ix (fd S o).length d with
      | none => none
      | some f => some (i, (fd S o)[f]?.getD none)
def ldS (S : SS) (q : Option (Nat × Option Nat)) : SS := match q with
  | none => S
  | some q => roS S q.1 q.2
theorem c_load {h : AH} {S : SS} (c : RC h S) (v : IV S) (a b d : Int32) : TT 20 0 [rv 0 (some 0), iv a, iv b, iv d, un] [] h 0 0 (fun x h' => x = some (iv (bI (ldO S a b d).isSome)) ∧ RC h' (ldS S (ldO S a b d)) ∧ CF h h') := by
  cases e1 : ix 6 a with
  | none =>
    have e0 : ldO S a b d = none := by unfold ldO; rw [e1]
    rw [e0]
    refine r_aload_n 1 d_20_0 rfl rfl ?_
    refine r_iload_n 2 d_20_1 rfl rfl ?_
    refine r_callV (k1 := 0) (n1 := 0) (k := 0) (n := 0) 5 22 0 [iv b] d_20_2 rfl mk_22 lk_0_108 mv_22 rfl rfl rfl rfl rfl _ (k_heldBy c b) ?_
    intro r_2 h_2 q_2
    obtain ⟨q1, q2⟩ := q_2
    subst q2
    rw [q1]
    show TT 20 5 [rv 0 (some 0), iv a, iv b, iv d, un] [rv 1 (hel S b)] h _ _ _
    refine r_astore 7 [rv 0 (some 0), iv a, iv b, iv d, rv 1 (hel S b)] d_20_5 rfl rfl rfl ?_
    refine r_iload_n 8 d_20_7 rfl rfl ?_
    refine r_callS (k1 := 0) (n1 := 0) (k := 0) (n := 0) 11 23 [iv a] d_20_8 rfl mk_23 lk_0_30 mv_23 rfl rfl rfl rfl _ (c_isRoot h a) ?_
    intro r_8 h_8 q_8
    obtain ⟨q3, q4⟩ := q_8
    rw [e1] at q4
    subst q4
    rw [q3]
    show TT 20 11 [rv 0 (some 0), iv a, iv b, iv d, rv 1 (hel S b)] [iv (bI (none : Option Nat).isSome)] h _ _ _
    refine r_if_eq 28 14 d_20_11 (by decide) rfl (fun c_11 => ?_) (fun c_11 => absurd rfl c_11)
    refine r_iconst 29 (nI 0) d_20_28 rfl (by decide) ?_
    refine r_zreturn d_20_29 rfl rfl ?_
    exact ⟨rfl, c, CF.rf h⟩
  | some i =>
    obtain ⟨hi, rfl⟩ := ix_some (by decide) e1
    cases e2 : hel S b with
    | none =>
      have e0 : ldO S (nI i) b d = none := by unfold ldO; simp only [e1, e2]
      rw [e0]
      refine r_aload_n 1 d_20_0 rfl rfl ?_
      refine r_iload_n 2 d_20_1 rfl rfl ?_
      refine r_callV (k1 := 0) (n1 := 0) (k := 0) (n := 0) 5 22 0 [iv b] d_20_2 rfl mk_22 lk_0_108 mv_22 rfl rfl rfl rfl rfl _ (k_heldBy c b) ?_
      intro r_2 h_2 q_2
      obtain ⟨q1, q2⟩ := q_2
      rw [e2] at q2
      subst q2
      rw [q1]
      show TT 20 5 [rv 0 (some 0), iv (nI i), iv b, iv d, un] [rv 1 none] h _ _ _
      refine r_astore 7 [rv 0 (some 0), iv (nI i), iv b, iv d, rv 1 none] d_20_5 rfl rfl rfl ?_
      refine r_iload_n 8 d_20_7 rfl rfl ?_
      refine r_callS (k1 := 0) (n1 := 0) (k := 0) (n := 0) 11 23 [iv (nI i)] d_20_8 rfl mk_23 lk_0_30 mv_23 rfl rfl rfl rfl _ (c_isRoot h (nI i)) ?_
      intro r_8 h_8 q_8
      obtain ⟨q3, q4⟩ := q_8
      rw [e1] at q4
      subst q4
      rw [q3]
      show TT 20 11 [rv 0 (some 0), iv (nI i), iv b, iv d, rv 1 none] [iv (bI (some i).isSome)] h _ _ _
      refine r_if_eq 28 14 d_20_11 (by decide) rfl (fun c_11 => absurd c_11 bI_t0) (fun c_11 => ?_)
      refine r_aload 16 d_20_14 rfl rfl ?_
      refine r_ifnull 28 19 d_20_16 (by decide) rfl (fun c_16 => ?_) (fun i_16 c_16 => absurd c_16 (by simp))
      refine r_iconst 29 (nI 0) d_20_28 rfl (by decide) ?_
      refine r_zreturn d_20_29 rfl rfl ?_
      exact ⟨rfl, c, CF.rf h⟩
    | some o =>
      have hoa := hel_mem v.cl e2
      have holt := c.mlt hoa
      have hl3 := v.bd.fd holt
      have efl := c.fl holt
      have hfl31 : hL h 4 (14 + o) < 2 ^ 31 := by rw [efl]; omega
      cases e3 : ix (fd S o).length d with
      | none =>
        have e0 : ldO S (nI i) b d = none := by unfold ldO; simp only [e1, e2, e3]
        rw [e0]
        refine r_aload_n 1 d_20_0 rfl rfl ?_
        refine r_iload_n 2 d_20_1 rfl rfl ?_
        refine r_callV (k1 := 0) (n1 := 0) (k := 0) (n := 0) 5 22 0 [iv b] d_20_2 rfl mk_22 lk_0_108 mv_22 rfl rfl rfl rfl rfl _ (k_heldBy c b) ?_
        intro r_2 h_2 q_2
        obtain ⟨q1, q2⟩ := q_2
        rw [e2] at q2
        subst q2
        rw [q1]
        show TT 20 5 [rv 0 (some 0), iv (nI i), iv b, iv d, un] [rv 1 (some o)] h _ _ _
        refine r_astore 7 [rv 0 (some 0), iv (nI i), iv b, iv d, rv 1 (some o)] d_20_5 rfl rfl rfl ?_
        refine r_iload_n 8 d_20_7 rfl rfl ?_
        refine r_callS (k1 := 0) (n1 := 0) (k := 0) (n := 0) 11 23 [iv (nI i)] d_20_8 rfl mk_23 lk_0_30 mv_23 rfl rfl rfl rfl _ (c_isRoot h (nI i)) ?_
        intro r_8 h_8 q_8
        obtain ⟨q3, q4⟩ := q_8
        rw [e1] at q4
        subst q4
        rw [q3]
        show TT 20 11 [rv 0 (some 0), iv (nI i), iv b, iv d, rv 1 (some o)] [iv (bI (some i).isSome)] h _ _ _
        refine r_if_eq 28 14 d_20_11 (by decide) rfl (fun c_11 => absurd c_11 bI_t0) (fun c_11 => ?_)
        refine r_aload 16 d_20_14 rfl rfl ?_
        refine r_ifnull 28 19 d_20_16 (by decide) rfl (fun c_16 => absurd c_16 (by simp)) (fun i_16 c_16 => ?_)
        refine r_aload 21 d_20_19 rfl rfl ?_
        refine r_iload_n 22 d_20_21 rfl rfl ?_
        refine r_callV (k1 := 0) (n1 := 0) (k := 0) (n := 0) 25 1 1 [iv d] d_20_22 rfl mk_1 lk_0_112 mv_1 rfl rfl rfl rfl rfl _ (c_hasField h o d c.st (by rw [c.c1]; exact holt) hfl31) ?_
        intro r_22 h_22 q_22
        obtain ⟨q5, q6⟩ := q_22
        rw [efl, e3] at q6
        subst q6
        rw [q5]
        show TT 20 25 [rv 0 (some 0), iv (nI i), iv b, iv d, rv 1 (some o)] [iv (bI (none : Option Nat).isSome)] h _ _ _
        refine r_if_ne 30 28 d_20_25 (by decide) rfl (fun c_25 => absurd c_25 (fun z => z rfl)) (fun c_25 => ?_)
        refine r_iconst 29 (nI 0) d_20_28 rfl (by decide) ?_
        refine r_zreturn d_20_29 rfl rfl ?_
        exact ⟨rfl, c, CF.rf h⟩
      | some f =>
        obtain ⟨hf, rfl⟩ := ix_some (by omega) e3
        obtain ⟨u, hu⟩ : ∃ u, (fd S o)[f]? = some u := ⟨_, List.getElem?_eq_getElem hf⟩
        have e0 : ldO S (nI i) b (nI f) = some (i, u) := by unfold ldO; simp only [e1, e2, e3, hu]; rfl
        rw [e0]
        refine r_aload_n 1 d_20_0 rfl rfl ?_
        refine r_iload_n 2 d_20_1 rfl rfl ?_
        refine r_callV (k1 := 0) (n1 := 0) (k := 0) (n := 0) 5 22 0 [iv b] d_20_2 rfl mk_22 lk_0_108 mv_22 rfl rfl rfl rfl rfl _ (k_heldBy c b) ?_
        intro r_2 h_2 q_2
        obtain ⟨q1, q2⟩ := q_2
        rw [e2] at q2
        subst q2
        rw [q1]
        show TT 20 5 [rv 0 (some 0), iv (nI i), iv b, iv (nI f), un] [rv 1 (some o)] h _ _ _
        refine r_astore 7 [rv 0 (some 0), iv (nI i), iv b, iv (nI f), rv 1 (some o)] d_20_5 rfl rfl rfl ?_
        refine r_iload_n 8 d_20_7 rfl rfl ?_
        refine r_callS (k1 := 0) (n1 := 0) (k := 0) (n := 0) 11 23 [iv (nI i)] d_20_8 rfl mk_23 lk_0_30 mv_23 rfl rfl rfl rfl _ (c_isRoot h (nI i)) ?_
        intro r_8 h_8 q_8
        obtain ⟨q3, q4⟩ := q_8
        rw [e1] at q4
        subst q4
        rw [q3]
        show TT 20 11 [rv 0 (some 0), iv (nI i), iv b, iv (nI f), rv 1 (some o)] [iv (bI (some i).isSome)] h _ _ _
        refine r_if_eq 28 14 d_20_11 (by decide) rfl (fun c_11 => absurd c_11 bI_t0) (fun c_11 => ?_)
        refine r_aload 16 d_20_14 rfl rfl ?_
        refine r_ifnull 28 19 d_20_16 (by decide) rfl (fun c_16 => absurd c_16 (by simp)) (fun i_16 c_16 => ?_)
        refine r_aload 21 d_20_19 rfl rfl ?_
        refine r_iload_n 22 d_20_21 rfl rfl ?_
        refine r_callV (k1 := 0) (n1 := 0) (k := 0) (n := 0) 25 1 1 [iv (nI f)] d_20_22 rfl mk_1 lk_0_112 mv_1 rfl rfl rfl rfl rfl _ (c_hasField h o (nI f) c.st (by rw [c.c1]; exact holt) hfl31) ?_
        intro r_22 h_22 q_22
        obtain ⟨q5, q6⟩ := q_22
        rw [efl, e3] at q6
        subst q6
        rw [q5]
        show TT 20 25 [rv 0 (some 0), iv (nI i), iv b, iv (nI f), rv 1 (some o)] [iv (bI (some f).isSome)] h _ _ _
        refine r_if_ne 30 28 d_20_25 (by decide) rfl (fun c_25 => ?_) (fun c_25 => absurd c_25 bI_t0)
        refine r_aload_n 31 d_20_30 rfl rfl ?_
        refine r_getR 34 0 1 4 (some 12) d_20_31 rfl fk_0_20 rfl (by decide) (ST.roo c.st) ?_
        refine r_iload_n 35 d_20_34 rfl rfl ?_
        refine r_aload 37 d_20_35 rfl rfl ?_
        refine r_getR 40 1 2 4 (some (14 + o)) d_20_37 rfl fk_0_118 rfl (by decide) (ST.fld c.st (by rw [c.c1]; exact holt)) ?_
        refine r_iload_n 41 d_20_40 rfl rfl ?_
        refine r_aald 42 4 1 f u d_20_41 rfl (Or.inl ⟨rfl, rfl⟩) rfl (by rw [efl]; exact hf) (c.fd holt hu) ?_
        refine r_aast 43 4 1 i d_20_42 rfl (Or.inl ⟨rfl, rfl⟩) rfl (ST.lro c.st hi) ?_
        refine r_iconst 44 (nI 1) d_20_43 rfl (by decide) ?_
        refine r_zreturn d_20_44 rfl rfl ?_
        exact ⟨rfl, rc_ro c i u, CF_sR (CF.rf h) rfl⟩
/-- hold -/
def hoO (S : SS) (a b : Int32) : Option (Nat × Option Nat) := match ix 6 a with
  | none => none
  | some i => if (decide (b = -1) || (ix 6 b).isSome) = true then some (i, hel S b) else none
theorem c_hold {h : AH} {S : SS} (c : RC h S) (a b : Int32) : TT 21 0 [rv 0 (some 0), iv a, iv b] [] h 0 0 (fun x h' => x = some (iv (bI (hoO S a b).isSome)) ∧ RC h' (ldS S (hoO S a b)) ∧ CF h h') := by
  cases e1 : ix 6 a with
  | none =>
    have e0 : hoO S a b = none := by unfold hoO; rw [e1]
    rw [e0]
    refine r_iload_n 1 d_21_0 rfl rfl ?_
    refine r_callS (k1 := 0) (n1 := 0) (k := 0) (n := 0) 4 23 [iv a] d_21_1 rfl mk_23 lk_0_30 mv_23 rfl rfl rfl rfl _ (c_isRoot h a) ?_
    intro r_1 h_1 q_1
    obtain ⟨q3, q4⟩ := q_1
    rw [e1] at q4
    subst q4
    rw [q3]
    show TT 21 4 [rv 0 (some 0), iv a, iv b] [iv (bI (none : Option Nat).isSome)] h _ _ _
    refine r_if_eq 14 7 d_21_4 (by decide) rfl (fun c_4 => ?_) (fun c_4 => absurd rfl c_4)
    refine r_iconst 15 (nI 0) d_21_14 rfl (by decide) ?_
    refine r_zreturn d_21_15 rfl rfl ?_
    exact ⟨rfl, c, CF.rf h⟩
  | some i =>
    obtain ⟨hi, rfl⟩ := ix_some (by decide) e1
    cases e3 : (decide (b = -1) || (ix 6 b).isSome) with
    | false =>
      have e0 : hoO S (nI i) b = none := by unfold hoO; simp only [e1, e3]; rfl
      rw [e0]
      refine r_iload_n 1 d_21_0 rfl rfl ?_
      refine r_callS (k1 := 0) (n1 := 0) (k := 0) (n := 0) 4 23 [iv (nI i)] d_21_1 rfl mk_23 lk_0_30 mv_23 rfl rfl rfl rfl _ (c_isRoot h (nI i)) ?_
      intro r_1 h_1 q_1
      obtain ⟨q3, q4⟩ := q_1
      rw [e1] at q4
      subst q4
      rw [q3]
      show TT 21 4 [rv 0 (some 0), iv (nI i), iv b] [iv (bI (some i).isSome)] h _ _ _
      refine r_if_eq 14 7 d_21_4 (by decide) rfl (fun c_4 => absurd c_4 bI_t0) (fun c_4 => ?_)
      refine r_iload_n 8 d_21_7 rfl rfl ?_
      refine r_callS (k1 := 0) (n1 := 0) (k := 0) (n := 0) 11 24 [iv b] d_21_8 rfl mk_24 lk_0_115 mv_24 rfl rfl rfl rfl _ (c_isRootOrNull h b) ?_
      intro r_8 h_8 q_8
      obtain ⟨q5, q6⟩ := q_8
      rw [e3] at q6
      subst q6
      rw [q5]
      show TT 21 11 [rv 0 (some 0), iv (nI i), iv b] [iv (bI false)] h _ _ _
      refine r_if_ne 16 14 d_21_11 (by decide) rfl (fun c_11 => absurd c_11 (fun z => z rfl)) (fun c_11 => ?_)
      refine r_iconst 15 (nI 0) d_21_14 rfl (by decide) ?_
      refine r_zreturn d_21_15 rfl rfl ?_
      exact ⟨rfl, c, CF.rf h⟩
    | true =>
      have e0 : hoO S (nI i) b = some (i, hel S b) := by unfold hoO; simp only [e1, e3]; rfl
      rw [e0]
      refine r_iload_n 1 d_21_0 rfl rfl ?_
      refine r_callS (k1 := 0) (n1 := 0) (k := 0) (n := 0) 4 23 [iv (nI i)] d_21_1 rfl mk_23 lk_0_30 mv_23 rfl rfl rfl rfl _ (c_isRoot h (nI i)) ?_
      intro r_1 h_1 q_1
      obtain ⟨q3, q4⟩ := q_1
      rw [e1] at q4
      subst q4
      rw [q3]
      show TT 21 4 [rv 0 (some 0), iv (nI i), iv b] [iv (bI (some i).isSome)] h _ _ _
      refine r_if_eq 14 7 d_21_4 (by decide) rfl (fun c_4 => absurd c_4 bI_t0) (fun c_4 => ?_)
      refine r_iload_n 8 d_21_7 rfl rfl ?_
      refine r_callS (k1 := 0) (n1 := 0) (k := 0) (n := 0) 11 24 [iv b] d_21_8 rfl mk_24 lk_0_115 mv_24 rfl rfl rfl rfl _ (c_isRootOrNull h b) ?_
      intro r_8 h_8 q_8
      obtain ⟨q5, q6⟩ := q_8
      rw [e3] at q6
      subst q6
      rw [q5]
      show TT 21 11 [rv 0 (some 0), iv (nI i), iv b] [iv (bI true)] h _ _ _
      refine r_if_ne 16 14 d_21_11 (by decide) rfl (fun c_11 => ?_) (fun c_11 => absurd c_11 bI_t0)
      refine r_aload_n 17 d_21_16 rfl rfl ?_
      refine r_getR 20 0 1 4 (some 12) d_21_17 rfl fk_0_20 rfl (by decide) (ST.roo c.st) ?_
      refine r_iload_n 21 d_21_20 rfl rfl ?_
      refine r_aload_n 22 d_21_21 rfl rfl ?_
      refine r_iload_n 23 d_21_22 rfl rfl ?_
      refine r_callV (k1 := 0) (n1 := 0) (k := 0) (n := 0) 26 22 0 [iv b] d_21_23 rfl mk_22 lk_0_108 mv_22 rfl rfl rfl rfl rfl _ (k_heldBy c b) ?_
      intro r_23 h_23 q_23
      obtain ⟨q1, q2⟩ := q_23
      subst q2
      rw [q1]
      show TT 21 26 [rv 0 (some 0), iv (nI i), iv b] [rv 1 (hel S b), iv (nI i), rv 4 (some 12)] h _ _ _
      refine r_aast 27 4 1 i d_21_26 rfl (Or.inl ⟨rfl, rfl⟩) rfl (ST.lro c.st hi) ?_
      refine r_iconst 28 (nI 1) d_21_27 rfl (by decide) ?_
      refine r_zreturn d_21_28 rfl rfl ?_
      exact ⟨rfl, rc_ro c i _, CF_sR (CF.rf h) rfl⟩
def serA (S : SS) (a : Int32) : Int32 := match ix 6 a with
  | none => -1
  | some i => match ro S i with
    | none => nI 0
    | some o => nI (o + 1)
theorem c_serial {h : AH} {S : SS} (c : RC h S) (v : IV S) (a : Int32) : TT 52 0 [rv 0 (some 0), iv a] [] h 0 0 (fun x h' => h' = h ∧ x = some (iv (serA S a))) := by
  cases e1 : ix 6 a with
  | none =>
    have e0 : serA S a = -1 := by unfold serA; rw [e1]
    rw [e0]
    refine r_iload_n 1 d_52_0 rfl rfl ?_
    refine r_callS (k1 := 0) (n1 := 0) (k := 0) (n := 0) 4 23 [iv a] d_52_1 rfl mk_23 lk_0_30 mv_23 rfl rfl rfl rfl _ (c_isRoot h a) ?_
    intro r_1 h_1 q_1
    obtain ⟨q3, q4⟩ := q_1
    rw [e1] at q4
    subst q4
    rw [q3]
    show TT 52 4 [rv 0 (some 0), iv a] [iv (bI (none : Option Nat).isSome)] h _ _ _
    refine r_if_ne 9 7 d_52_4 (by decide) rfl (fun c_4 => absurd c_4 (fun z => z rfl)) (fun c_4 => ?_)
    refine r_iconst 8 (-1) d_52_7 rfl (by decide) ?_
    refine r_ireturn d_52_8 rfl ?_
    exact ⟨rfl, rfl⟩
  | some i =>
    obtain ⟨hi, rfl⟩ := ix_some (by decide) e1
    cases e2 : ro S i with
    | none =>
      have e0 : serA S (nI i) = nI 0 := by unfold serA; simp only [e1, e2]
      rw [e0]
      refine r_iload_n 1 d_52_0 rfl rfl ?_
      refine r_callS (k1 := 0) (n1 := 0) (k := 0) (n := 0) 4 23 [iv (nI i)] d_52_1 rfl mk_23 lk_0_30 mv_23 rfl rfl rfl rfl _ (c_isRoot h (nI i)) ?_
      intro r_1 h_1 q_1
      obtain ⟨q3, q4⟩ := q_1
      rw [e1] at q4
      subst q4
      rw [q3]
      show TT 52 4 [rv 0 (some 0), iv (nI i)] [iv (bI (some i).isSome)] h _ _ _
      refine r_if_ne 9 7 d_52_4 (by decide) rfl (fun c_4 => ?_) (fun c_4 => absurd c_4 bI_t0)
      refine r_aload_n 10 d_52_9 rfl rfl ?_
      refine r_getR 13 0 1 4 (some 12) d_52_10 rfl fk_0_20 rfl (by decide) (ST.roo c.st) ?_
      refine r_iload_n 14 d_52_13 rfl rfl ?_
      refine r_aald 15 4 1 i none d_52_14 rfl (Or.inl ⟨rfl, rfl⟩) rfl (ST.lro c.st hi) ((c.ro hi).trans e2) ?_
      refine r_ifnonnull 22 18 d_52_15 (by decide) rfl (fun i_15 c_15 => absurd c_15 (by simp)) (fun c_15 => ?_)
      refine r_iconst 19 (nI 0) d_52_18 rfl (by decide) ?_
      refine r_goto 31 d_52_19 (by decide) ?_
      refine r_ireturn d_52_31 rfl ?_
      exact ⟨rfl, rfl⟩
    | some o =>
      have e0 : serA S (nI i) = nI (o + 1) := by unfold serA; simp only [e1, e2]
      rw [e0]
      have holt := c.mlt (v.2.2.1 i o hi e2)
      refine r_iload_n 1 d_52_0 rfl rfl ?_
      refine r_callS (k1 := 0) (n1 := 0) (k := 0) (n := 0) 4 23 [iv (nI i)] d_52_1 rfl mk_23 lk_0_30 mv_23 rfl rfl rfl rfl _ (c_isRoot h (nI i)) ?_
      intro r_1 h_1 q_1
      obtain ⟨q3, q4⟩ := q_1
      rw [e1] at q4
      subst q4
      rw [q3]
      show TT 52 4 [rv 0 (some 0), iv (nI i)] [iv (bI (some i).isSome)] h _ _ _
      refine r_if_ne 9 7 d_52_4 (by decide) rfl (fun c_4 => ?_) (fun c_4 => absurd c_4 bI_t0)
      refine r_aload_n 10 d_52_9 rfl rfl ?_
      refine r_getR 13 0 1 4 (some 12) d_52_10 rfl fk_0_20 rfl (by decide) (ST.roo c.st) ?_
      refine r_iload_n 14 d_52_13 rfl rfl ?_
      refine r_aald 15 4 1 i (some o) d_52_14 rfl (Or.inl ⟨rfl, rfl⟩) rfl (ST.lro c.st hi) ((c.ro hi).trans e2) ?_
      refine r_ifnonnull 22 18 d_52_15 (by decide) rfl (fun i_15 c_15 => ?_) (fun c_15 => absurd c_15 (by simp))
      refine r_aload_n 23 d_52_22 rfl rfl ?_
      refine r_getR 26 0 1 4 (some 12) d_52_23 rfl fk_0_20 rfl (by decide) (ST.roo c.st) ?_
      refine r_iload_n 27 d_52_26 rfl rfl ?_
      refine r_aald 28 4 1 i (some o) d_52_27 rfl (Or.inl ⟨rfl, rfl⟩) rfl (ST.lro c.st hi) ((c.ro hi).trans e2) ?_
      refine r_getI 31 1 0 (nI (o + 1)) d_52_28 rfl fk_0_53 rfl (c.no holt) ?_
      refine r_ireturn d_52_31 rfl ?_
      exact ⟨rfl, rfl⟩
def obA (S : SS) (f : Nat → Nat) (a : Int32) : Int32 := match hel S a with
  | none => -1
  | some o => nI (f o)
theorem c_region {h : AH} {S : SS} (c : RC h S) (v : IV S) (a : Int32) : TT 53 0 [rv 0 (some 0), iv a, un] [] h 0 0 (fun x h' => h' = h ∧ x = some (iv (obA S (hm S) a))) := by
  cases e1 : hel S a with
  | none =>
    have e0 : obA S (hm S) a = -1 := by unfold obA; rw [e1]
    rw [e0]
    refine r_aload_n 1 d_53_0 rfl rfl ?_
    refine r_iload_n 2 d_53_1 rfl rfl ?_
    refine r_callV (k1 := 0) (n1 := 0) (k := 0) (n := 0) 5 22 0 [iv a] d_53_2 rfl mk_22 lk_0_108 mv_22 rfl rfl rfl rfl rfl _ (k_heldBy c a) ?_
    intro r_2 h_2 q_2
    obtain ⟨q1, q2⟩ := q_2
    rw [e1] at q2
    subst q2
    rw [q1]
    show TT 53 5 [rv 0 (some 0), iv a, un] [rv 1 none] h _ _ _
    refine r_astore_n 6 [rv 0 (some 0), iv a, rv 1 none] d_53_5 rfl rfl rfl ?_
    refine r_aload_n 7 d_53_6 rfl rfl ?_
    refine r_ifnonnull 14 10 d_53_7 (by decide) rfl (fun i_7 c_7 => absurd c_7 (by simp)) (fun c_7 => ?_)
    refine r_iconst 11 (-1) d_53_10 rfl (by decide) ?_
    refine r_goto 21 d_53_11 (by decide) ?_
    refine r_ireturn d_53_21 rfl ?_
    exact ⟨rfl, rfl⟩
  | some o =>
    have hoa := hel_mem v.cl e1
    have e0 : obA S (hm S) a = nI (hm S o) := by unfold obA; rw [e1]
    rw [e0]
    refine r_aload_n 1 d_53_0 rfl rfl ?_
    refine r_iload_n 2 d_53_1 rfl rfl ?_
    refine r_callV (k1 := 0) (n1 := 0) (k := 0) (n := 0) 5 22 0 [iv a] d_53_2 rfl mk_22 lk_0_108 mv_22 rfl rfl rfl rfl rfl _ (k_heldBy c a) ?_
    intro r_2 h_2 q_2
    obtain ⟨q1, q2⟩ := q_2
    rw [e1] at q2
    subst q2
    rw [q1]
    show TT 53 5 [rv 0 (some 0), iv a, un] [rv 1 (some o)] h _ _ _
    refine r_astore_n 6 [rv 0 (some 0), iv a, rv 1 (some o)] d_53_5 rfl rfl rfl ?_
    refine r_aload_n 7 d_53_6 rfl rfl ?_
    refine r_ifnonnull 14 10 d_53_7 (by decide) rfl (fun i_7 c_7 => ?_) (fun c_7 => absurd c_7 (by simp))
    refine r_aload_n 15 d_53_14 rfl rfl ?_
    refine r_getR 18 1 3 2 (some (hm S o)) d_53_15 rfl fk_0_169 rfl (by decide) (c.hm hoa) ?_
    refine r_getI 21 2 0 (nI (hm S o)) d_53_18 rfl fk_0_198 rfl (c.st.idx (hm_lt v.cl hoa)) ?_
    refine r_ireturn d_53_21 rfl ?_
    exact ⟨rfl, rfl⟩
theorem c_offset {h : AH} {S : SS} (c : RC h S) (v : IV S) (a : Int32) : TT 54 0 [rv 0 (some 0), iv a, un] [] h 0 0 (fun x h' => h' = h ∧ x = some (iv (obA S (so S) a))) := by
  cases e1 : hel S a with
  | none =>
    have e0 : obA S (so S) a = -1 := by unfold obA; rw [e1]
    rw [e0]
    refine r_aload_n 1 d_54_0 rfl rfl ?_
    refine r_iload_n 2 d_54_1 rfl rfl ?_
    refine r_callV (k1 := 0) (n1 := 0) (k := 0) (n := 0) 5 22 0 [iv a] d_54_2 rfl mk_22 lk_0_108 mv_22 rfl rfl rfl rfl rfl _ (k_heldBy c a) ?_
    intro r_2 h_2 q_2
    obtain ⟨q1, q2⟩ := q_2
    rw [e1] at q2
    subst q2
    rw [q1]
    show TT 54 5 [rv 0 (some 0), iv a, un] [rv 1 none] h _ _ _
    refine r_astore_n 6 [rv 0 (some 0), iv a, rv 1 none] d_54_5 rfl rfl rfl ?_
    refine r_aload_n 7 d_54_6 rfl rfl ?_
    refine r_ifnonnull 14 10 d_54_7 (by decide) rfl (fun i_7 c_7 => absurd c_7 (by simp)) (fun c_7 => ?_)
    refine r_iconst 11 (-1) d_54_10 rfl (by decide) ?_
    refine r_goto 18 d_54_11 (by decide) ?_
    refine r_ireturn d_54_18 rfl ?_
    exact ⟨rfl, rfl⟩
  | some o =>
    have hoa := hel_mem v.cl e1
    have e0 : obA S (so S) a = nI (so S o) := by unfold obA; rw [e1]
    rw [e0]
    refine r_aload_n 1 d_54_0 rfl rfl ?_
    refine r_iload_n 2 d_54_1 rfl rfl ?_
    refine r_callV (k1 := 0) (n1 := 0) (k := 0) (n := 0) 5 22 0 [iv a] d_54_2 rfl mk_22 lk_0_108 mv_22 rfl rfl rfl rfl rfl _ (k_heldBy c a) ?_
    intro r_2 h_2 q_2
    obtain ⟨q1, q2⟩ := q_2
    rw [e1] at q2
    subst q2
    rw [q1]
    show TT 54 5 [rv 0 (some 0), iv a, un] [rv 1 (some o)] h _ _ _
    refine r_astore_n 6 [rv 0 (some 0), iv a, rv 1 (some o)] d_54_5 rfl rfl rfl ?_
    refine r_aload_n 7 d_54_6 rfl rfl ?_
    refine r_ifnonnull 14 10 d_54_7 (by decide) rfl (fun i_7 c_7 => ?_) (fun c_7 => absurd c_7 (by simp))
    refine r_aload_n 15 d_54_14 rfl rfl ?_
    refine r_getI 18 1 4 (nI (so S o)) d_54_15 rfl fk_0_247 rfl (c.so hoa) ?_
    refine r_ireturn d_54_18 rfl ?_
    exact ⟨rfl, rfl⟩
theorem c_size {h : AH} {S : SS} (c : RC h S) (v : IV S) (a : Int32) : TT 55 0 [rv 0 (some 0), iv a, un] [] h 0 0 (fun x h' => h' = h ∧ x = some (iv (obA S (wd S) a))) := by
  cases e1 : hel S a with
  | none =>
    have e0 : obA S (wd S) a = -1 := by unfold obA; rw [e1]
    rw [e0]
    refine r_aload_n 1 d_55_0 rfl rfl ?_
    refine r_iload_n 2 d_55_1 rfl rfl ?_
    refine r_callV (k1 := 0) (n1 := 0) (k := 0) (n := 0) 5 22 0 [iv a] d_55_2 rfl mk_22 lk_0_108 mv_22 rfl rfl rfl rfl rfl _ (k_heldBy c a) ?_
    intro r_2 h_2 q_2
    obtain ⟨q1, q2⟩ := q_2
    rw [e1] at q2
    subst q2
    rw [q1]
    show TT 55 5 [rv 0 (some 0), iv a, un] [rv 1 none] h _ _ _
    refine r_astore_n 6 [rv 0 (some 0), iv a, rv 1 none] d_55_5 rfl rfl rfl ?_
    refine r_aload_n 7 d_55_6 rfl rfl ?_
    refine r_ifnonnull 14 10 d_55_7 (by decide) rfl (fun i_7 c_7 => absurd c_7 (by simp)) (fun c_7 => ?_)
    refine r_iconst 11 (-1) d_55_10 rfl (by decide) ?_
    refine r_goto 18 d_55_11 (by decide) ?_
    refine r_ireturn d_55_18 rfl ?_
    exact ⟨rfl, rfl⟩
  | some o =>
    have hoa := hel_mem v.cl e1
    have holt := c.mlt hoa
    have e0 : obA S (wd S) a = nI (wd S o) := by unfold obA; rw [e1]
    rw [e0]
    refine r_aload_n 1 d_55_0 rfl rfl ?_
    refine r_iload_n 2 d_55_1 rfl rfl ?_
    refine r_callV (k1 := 0) (n1 := 0) (k := 0) (n := 0) 5 22 0 [iv a] d_55_2 rfl mk_22 lk_0_108 mv_22 rfl rfl rfl rfl rfl _ (k_heldBy c a) ?_
    intro r_2 h_2 q_2
    obtain ⟨q1, q2⟩ := q_2
    rw [e1] at q2
    subst q2
    rw [q1]
    show TT 55 5 [rv 0 (some 0), iv a, un] [rv 1 (some o)] h _ _ _
    refine r_astore_n 6 [rv 0 (some 0), iv a, rv 1 (some o)] d_55_5 rfl rfl rfl ?_
    refine r_aload_n 7 d_55_6 rfl rfl ?_
    refine r_ifnonnull 14 10 d_55_7 (by decide) rfl (fun i_7 c_7 => ?_) (fun c_7 => absurd c_7 (by simp))
    refine r_aload_n 15 d_55_14 rfl rfl ?_
    refine r_getI 18 1 1 (nI (wd S o)) d_55_15 rfl fk_0_96 rfl (c.wd holt) ?_
    refine r_ireturn d_55_18 rfl ?_
    exact ⟨rfl, rfl⟩
def reA (f : Nat → Int32) (a : Int32) : Int32 := match ix 12 a with
  | none => -1
  | some r => f r
theorem c_kind {h : AH} {S : SS} (c : RC h S) (a : Int32) : TT 56 0 [rv 0 (some 0), iv a] [] h 0 0 (fun x h' => h' = h ∧ x = some (iv (reA (fun r => nI (kd S r)) a))) := by
  cases e1 : ix 12 a with
  | none =>
    have e0 : reA (fun r => nI (kd S r)) a = -1 := by unfold reA; rw [e1]
    rw [e0]
    refine r_iload_n 1 d_56_0 rfl rfl ?_
    refine r_callS (k1 := 0) (n1 := 0) (k := 0) (n := 0) 4 26 [iv a] d_56_1 rfl mk_26 lk_0_250 mv_26 rfl rfl rfl rfl _ (c_isRegion h a) ?_
    intro r_1 h_1 q_1
    obtain ⟨q3, q4⟩ := q_1
    rw [e1] at q4
    subst q4
    rw [q3]
    show TT 56 4 [rv 0 (some 0), iv a] [iv (bI (none : Option Nat).isSome)] h _ _ _
    refine r_if_eq 19 7 d_56_4 (by decide) rfl (fun c_4 => ?_) (fun c_4 => absurd rfl c_4)
    refine r_iconst 20 (-1) d_56_19 rfl (by decide) ?_
    refine r_ireturn d_56_20 rfl ?_
    exact ⟨rfl, rfl⟩
  | some r =>
    obtain ⟨hr, rfl⟩ := ix_some (by decide) e1
    have e0 : reA (fun r => nI (kd S r)) (nI r) = nI (kd S r) := by unfold reA; rw [e1]
    rw [e0]
    refine r_iload_n 1 d_56_0 rfl rfl ?_
    refine r_callS (k1 := 0) (n1 := 0) (k := 0) (n := 0) 4 26 [iv (nI r)] d_56_1 rfl mk_26 lk_0_250 mv_26 rfl rfl rfl rfl _ (c_isRegion h (nI r)) ?_
    intro r_1 h_1 q_1
    obtain ⟨q3, q4⟩ := q_1
    rw [e1] at q4
    subst q4
    rw [q3]
    show TT 56 4 [rv 0 (some 0), iv (nI r)] [iv (bI (some r).isSome)] h _ _ _
    refine r_if_eq 19 7 d_56_4 (by decide) rfl (fun c_4 => absurd c_4 bI_t0) (fun c_4 => ?_)
    refine r_aload_n 8 d_56_7 rfl rfl ?_
    refine r_getR 11 0 0 5 (some 0) d_56_8 rfl fk_0_11 rfl (by decide) (ST.reg c.st) ?_
    refine r_iload_n 12 d_56_11 rfl rfl ?_
    refine r_aald 13 5 2 r (some r) d_56_12 rfl (Or.inr ⟨rfl, rfl⟩) rfl (ST.l50 c.st hr) (ST.rat c.st hr) ?_
    refine r_getI 16 2 3 (nI (kd S r)) d_56_13 rfl fk_0_93 rfl (c.kd hr) ?_
    refine r_goto 20 d_56_16 (by decide) ?_
    refine r_ireturn d_56_20 rfl ?_
    exact ⟨rfl, rfl⟩
theorem c_used {h : AH} {S : SS} (c : RC h S) (a : Int32) : TT 57 0 [rv 0 (some 0), iv a] [] h 0 0 (fun x h' => h' = h ∧ x = some (iv (reA (fun r => nI (us S r)) a))) := by
  cases e1 : ix 12 a with
  | none =>
    have e0 : reA (fun r => nI (us S r)) a = -1 := by unfold reA; rw [e1]
    rw [e0]
    refine r_iload_n 1 d_57_0 rfl rfl ?_
    refine r_callS (k1 := 0) (n1 := 0) (k := 0) (n := 0) 4 26 [iv a] d_57_1 rfl mk_26 lk_0_250 mv_26 rfl rfl rfl rfl _ (c_isRegion h a) ?_
    intro r_1 h_1 q_1
    obtain ⟨q3, q4⟩ := q_1
    rw [e1] at q4
    subst q4
    rw [q3]
    show TT 57 4 [rv 0 (some 0), iv a] [iv (bI (none : Option Nat).isSome)] h _ _ _
    refine r_if_eq 19 7 d_57_4 (by decide) rfl (fun c_4 => ?_) (fun c_4 => absurd rfl c_4)
    refine r_iconst 20 (-1) d_57_19 rfl (by decide) ?_
    refine r_ireturn d_57_20 rfl ?_
    exact ⟨rfl, rfl⟩
  | some r =>
    obtain ⟨hr, rfl⟩ := ix_some (by decide) e1
    have e0 : reA (fun r => nI (us S r)) (nI r) = nI (us S r) := by unfold reA; rw [e1]
    rw [e0]
    refine r_iload_n 1 d_57_0 rfl rfl ?_
    refine r_callS (k1 := 0) (n1 := 0) (k := 0) (n := 0) 4 26 [iv (nI r)] d_57_1 rfl mk_26 lk_0_250 mv_26 rfl rfl rfl rfl _ (c_isRegion h (nI r)) ?_
    intro r_1 h_1 q_1
    obtain ⟨q3, q4⟩ := q_1
    rw [e1] at q4
    subst q4
    rw [q3]
    show TT 57 4 [rv 0 (some 0), iv (nI r)] [iv (bI (some r).isSome)] h _ _ _
    refine r_if_eq 19 7 d_57_4 (by decide) rfl (fun c_4 => absurd c_4 bI_t0) (fun c_4 => ?_)
    refine r_aload_n 8 d_57_7 rfl rfl ?_
    refine r_getR 11 0 0 5 (some 0) d_57_8 rfl fk_0_11 rfl (by decide) (ST.reg c.st) ?_
    refine r_iload_n 12 d_57_11 rfl rfl ?_
    refine r_aald 13 5 2 r (some r) d_57_12 rfl (Or.inr ⟨rfl, rfl⟩) rfl (ST.l50 c.st hr) (ST.rat c.st hr) ?_
    refine r_getI 16 2 4 (nI (us S r)) d_57_13 rfl fk_0_105 rfl (c.us hr) ?_
    refine r_goto 20 d_57_16 (by decide) ?_
    refine r_ireturn d_57_20 rfl ?_
    exact ⟨rfl, rfl⟩
theorem c_live {h : AH} {S : SS} (c : RC h S) (a : Int32) : TT 58 0 [rv 0 (some 0), iv a] [] h 0 0 (fun x h' => h' = h ∧ x = some (iv (reA (fun r => ol (lw S r)) a))) := by
  cases e1 : ix 12 a with
  | none =>
    have e0 : reA (fun r => ol (lw S r)) a = -1 := by unfold reA; rw [e1]
    rw [e0]
    refine r_iload_n 1 d_58_0 rfl rfl ?_
    refine r_callS (k1 := 0) (n1 := 0) (k := 0) (n := 0) 4 26 [iv a] d_58_1 rfl mk_26 lk_0_250 mv_26 rfl rfl rfl rfl _ (c_isRegion h a) ?_
    intro r_1 h_1 q_1
    obtain ⟨q3, q4⟩ := q_1
    rw [e1] at q4
    subst q4
    rw [q3]
    show TT 58 4 [rv 0 (some 0), iv a] [iv (bI (none : Option Nat).isSome)] h _ _ _
    refine r_if_eq 19 7 d_58_4 (by decide) rfl (fun c_4 => ?_) (fun c_4 => absurd rfl c_4)
    refine r_iconst 20 (-1) d_58_19 rfl (by decide) ?_
    refine r_ireturn d_58_20 rfl ?_
    exact ⟨rfl, rfl⟩
  | some r =>
    obtain ⟨hr, rfl⟩ := ix_some (by decide) e1
    have e0 : reA (fun r => ol (lw S r)) (nI r) = ol (lw S r) := by unfold reA; rw [e1]
    rw [e0]
    refine r_iload_n 1 d_58_0 rfl rfl ?_
    refine r_callS (k1 := 0) (n1 := 0) (k := 0) (n := 0) 4 26 [iv (nI r)] d_58_1 rfl mk_26 lk_0_250 mv_26 rfl rfl rfl rfl _ (c_isRegion h (nI r)) ?_
    intro r_1 h_1 q_1
    obtain ⟨q3, q4⟩ := q_1
    rw [e1] at q4
    subst q4
    rw [q3]
    show TT 58 4 [rv 0 (some 0), iv (nI r)] [iv (bI (some r).isSome)] h _ _ _
    refine r_if_eq 19 7 d_58_4 (by decide) rfl (fun c_4 => absurd c_4 bI_t0) (fun c_4 => ?_)
    refine r_aload_n 8 d_58_7 rfl rfl ?_
    refine r_getR 11 0 0 5 (some 0) d_58_8 rfl fk_0_11 rfl (by decide) (ST.reg c.st) ?_
    refine r_iload_n 12 d_58_11 rfl rfl ?_
    refine r_aald 13 5 2 r (some r) d_58_12 rfl (Or.inr ⟨rfl, rfl⟩) rfl (ST.l50 c.st hr) (ST.rat c.st hr) ?_
    refine r_getI 16 2 5 (ol (lw S r)) d_58_13 rfl fk_0_49 rfl (c.lw hr) ?_
    refine r_goto 20 d_58_16 (by decide) ?_
    refine r_ireturn d_58_20 rfl ?_
    exact ⟨rfl, rfl⟩
theorem c_incoming {h : AH} {S : SS} (c : RC h S) (v : IV S) (a : Int32) : TT 59 0 [rv 0 (some 0), iv a] [] h 0 0 (fun x h' => h' = h ∧ x = some (iv (reA (fun r => nI (inc S r)) a))) := by
  cases e1 : ix 12 a with
  | none =>
    have e0 : reA (fun r => nI (inc S r)) a = -1 := by unfold reA; rw [e1]
    rw [e0]
    refine r_iload_n 1 d_59_0 rfl rfl ?_
    refine r_callS (k1 := 0) (n1 := 0) (k := 0) (n := 0) 4 26 [iv a] d_59_1 rfl mk_26 lk_0_250 mv_26 rfl rfl rfl rfl _ (c_isRegion h a) ?_
    intro r_1 h_1 q_1
    obtain ⟨q3, q4⟩ := q_1
    rw [e1] at q4
    subst q4
    rw [q3]
    show TT 59 4 [rv 0 (some 0), iv a] [iv (bI (none : Option Nat).isSome)] h _ _ _
    refine r_if_eq 20 7 d_59_4 (by decide) rfl (fun c_4 => ?_) (fun c_4 => absurd rfl c_4)
    refine r_iconst 21 (-1) d_59_20 rfl (by decide) ?_
    refine r_ireturn d_59_21 rfl ?_
    exact ⟨rfl, rfl⟩
  | some r =>
    obtain ⟨hr, rfl⟩ := ix_some (by decide) e1
    have e0 : reA (fun r => nI (inc S r)) (nI r) = nI (inc S r) := by unfold reA; rw [e1]
    rw [e0]
    refine r_iload_n 1 d_59_0 rfl rfl ?_
    refine r_callS (k1 := 0) (n1 := 0) (k := 0) (n := 0) 4 26 [iv (nI r)] d_59_1 rfl mk_26 lk_0_250 mv_26 rfl rfl rfl rfl _ (c_isRegion h (nI r)) ?_
    intro r_1 h_1 q_1
    obtain ⟨q3, q4⟩ := q_1
    rw [e1] at q4
    subst q4
    rw [q3]
    show TT 59 4 [rv 0 (some 0), iv (nI r)] [iv (bI (some r).isSome)] h _ _ _
    refine r_if_eq 20 7 d_59_4 (by decide) rfl (fun c_4 => absurd c_4 bI_t0) (fun c_4 => ?_)
    refine r_aload_n 8 d_59_7 rfl rfl ?_
    refine r_aload_n 9 d_59_8 rfl rfl ?_
    refine r_getR 12 0 0 5 (some 0) d_59_9 rfl fk_0_11 rfl (by decide) (ST.reg c.st) ?_
    refine r_iload_n 13 d_59_12 rfl rfl ?_
    refine r_aald 14 5 2 r (some r) d_59_13 rfl (Or.inr ⟨rfl, rfl⟩) rfl (ST.l50 c.st hr) (ST.rat c.st hr) ?_
    refine r_callV (k1 := 0) (n1 := 0) (k := 0) (n := 0) 17 41 0 [rv 2 (some r)] d_59_14 rfl mk_41 lk_0_204 mv_41 rfl rfl rfl rfl rfl _ (c_incomingTo c v.bd v.cl hr) ?_
    intro r_14 h_14 q_14
    obtain ⟨q1, q2⟩ := q_14
    subst q2
    rw [q1]
    show TT 59 17 [rv 0 (some 0), iv (nI r)] [iv (nI (inc S r))] h _ _ _
    refine r_goto 21 d_59_17 (by decide) ?_
    refine r_ireturn d_59_21 rfl ?_
    exact ⟨rfl, rfl⟩
theorem c_collect {h : AH} {S : SS} (c : RC h S) (v : IV S) {bu : Nat} (hbu : bu < 2 ^ 31) : TT 27 0 [rv 0 (some 0), iv (nI bu)] [] h 0 0 (fun x h' => x = some (iv (collA S bu)) ∧ RC h' (coll S bu) ∧ IV (coll S bu) ∧ (po (plan S (colB S bu)) = false → RL S (fl0 S)) ∧ CF h h') := by
  refine r_iload_n 1 d_27_0 rfl rfl ?_
  refine r_if_ge 8 4 d_27_1 (by decide) rfl (fun c_1 => ?_) (fun c_1 => absurd (nI_pos' hbu) c_1)
  refine r_aload_n 9 d_27_8 rfl rfl ?_
  refine r_iload_n 10 d_27_9 rfl rfl ?_
  refine r_callV (k1 := 0) (n1 := 0) (k := 0) (n := 0) 13 28 0 [iv (nI bu)] d_27_10 rfl mk_28 lk_0_77 mv_28 rfl rfl rfl rfl rfl _ (k_coll c v hbu) ?_
  intro r_10 h_10 q_10
  obtain ⟨q1, q2⟩ := q_10
  subst q1
  show TT 27 13 [rv 0 (some 0), iv (nI bu)] [iv (collA S bu)] h_10 _ _ _
  refine r_ireturn d_27_13 rfl ?_
  exact ⟨rfl, q2⟩
theorem c_collect_neg {h : AH} {a : Int32} (ha : a < 0) : TT 27 0 [rv 0 (some 0), iv a] [] h 0 0 (fun x h' => x = some (iv (-1)) ∧ h' = h) := by
  refine r_iload_n 1 d_27_0 rfl rfl ?_
  refine r_if_ge 8 4 d_27_1 (by decide) rfl (fun c_1 => absurd c_1 (fun z => absurd ha (Int32.not_lt.mpr z))) (fun c_1 => ?_)
  refine r_iconst 5 (-1) d_27_4 rfl (by decide) ?_
  refine r_goto 13 d_27_5 (by decide) ?_
  refine r_ireturn d_27_13 rfl ?_
  exact ⟨rfl, rfl⟩
theorem k_fullP {h : AH} {S : SS} (c : RC h S) (v : IV S) : TT 47 0 [rv 0 (some 0)] [] h 0 0 (fun x h' => x = some (iv (nI (fl0 S).length)) ∧ RC h' (ful S) ∧ IV (ful S) ∧ RL S (fl0 S) ∧ CF h h') := by
  refine r_aload_n 1 d_47_0 rfl rfl ?_
  refine r_callV (k1 := 0) (n1 := 0) (k := 0) (n := 0) 4 48 0 [] d_47_1 rfl mk_48 lk_0_60 mv_48 rfl rfl rfl rfl rfl _ (k_full c v) ?_
  intro r_1 h_1 q_1
  obtain ⟨q1, q2⟩ := q_1
  subst q1
  show TT 47 4 [rv 0 (some 0)] [iv (nI (fl0 S).length)] h_1 _ _ _
  refine r_ireturn d_47_4 rfl ?_
  exact ⟨rfl, q2⟩
def coA (S : SS) (a : Int32) : Int32 := match ix 4 a with
  | none => -1
  | some k => nI (ct S k)
