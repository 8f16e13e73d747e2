/-! contracts of the class: count, refused calls, the constructor -/
theorem c_count {h : AH} {S : SS} (c : RC h S) (a : Int32) : TT 60 0 [rv 0 (some 0), iv a] [] h 0 0 (fun x h' => h' = h ∧ x = some (iv (coA S a))) := by
  cases e1 : ix 4 a with
  | none =>
    have e0 : coA S a = -1 := by unfold coA; rw [e1]
    rw [e0]
    have hout : a.toInt < 0 ∨ 3 < a.toInt := by
      by_cases h1 : a < 0
      · left
        rw [Int32.lt_iff_toInt_lt] at h1
        exact h1
      · by_cases h2 : nI 4 ≤ a
        · right
          rw [Int32.le_iff_toInt_le] at h2
          have e4 : (nI 4).toInt = 4 := by decide
          omega
        · obtain ⟨j, -, -, hj⟩ := ix_in (n := 4) (by decide) h1 h2
          rw [hj] at e1
          cases e1
    refine r_iload_n 1 d_60_0 rfl rfl ?_
    refine r_tableOut 52 d_60_1 hout (by decide) ?_
    refine r_iconst 53 (-1) d_60_52 rfl (by decide) ?_
    refine r_ireturn d_60_53 rfl ?_
    exact ⟨rfl, rfl⟩
  | some k =>
    obtain ⟨hk, rfl⟩ := ix_some (by decide) e1
    have e0 : coA S (nI k) = nI (ct S k) := by unfold coA; rw [e1]
    rw [e0]
    match k, hk with
    | 0, _ =>
      refine r_iload_n 1 d_60_0 rfl rfl ?_
      refine r_tableIn 32 d_60_1 (by decide) (by decide) (off := 31) (by decide) (by decide) ?_
      refine r_aload_n 33 d_60_32 rfl rfl ?_
      refine r_getI 36 0 6 (nI (ct S 0)) d_60_33 rfl fk_0_182 rfl c.ct0 ?_
      refine r_ireturn d_60_36 rfl ?_
      exact ⟨rfl, rfl⟩
    | 1, _ =>
      refine r_iload_n 1 d_60_0 rfl rfl ?_
      refine r_tableIn 37 d_60_1 (by decide) (by decide) (off := 36) (by decide) (by decide) ?_
      refine r_aload_n 38 d_60_37 rfl rfl ?_
      refine r_getI 41 0 7 (nI (ct S 1)) d_60_38 rfl fk_0_240 rfl c.ct1 ?_
      refine r_ireturn d_60_41 rfl ?_
      exact ⟨rfl, rfl⟩
    | 2, _ =>
      refine r_iload_n 1 d_60_0 rfl rfl ?_
      refine r_tableIn 42 d_60_1 (by decide) (by decide) (off := 41) (by decide) (by decide) ?_
      refine r_aload_n 43 d_60_42 rfl rfl ?_
      refine r_getI 46 0 8 (nI (ct S 2)) d_60_43 rfl fk_0_179 rfl c.ct2 ?_
      refine r_ireturn d_60_46 rfl ?_
      exact ⟨rfl, rfl⟩
    | 3, _ =>
      refine r_iload_n 1 d_60_0 rfl rfl ?_
      refine r_tableIn 47 d_60_1 (by decide) (by decide) (off := 46) (by decide) (by decide) ?_
      refine r_aload_n 48 d_60_47 rfl rfl ?_
      refine r_getI 51 0 9 (nI (ct S 3)) d_60_48 rfl fk_0_68 rfl c.ct3 ?_
      refine r_ireturn d_60_51 rfl ?_
      exact ⟨rfl, rfl⟩
theorem c_make_bad {h : AH} (a b d : Int32) (hb : ix 6 a = none ∨ ix 4 b = none ∨ ix 4 d = none) : TT 10 0 [rv 0 (some 0), iv a, iv b, iv d, un, un, un] [] h 0 0 (fun x h' => h' = h ∧ x = some (iv (-1))) := by
  refine r_iload_n 1 d_10_0 rfl rfl ?_
  refine r_callS (k1 := 0) (n1 := 0) (k := 0) (n := 0) 4 23 [iv a] d_10_1 rfl mk_23 lk_0_30 mv_23 rfl rfl rfl rfl _ (c_isRoot h a) ?_
  intro r_1 h_1 q_1
  obtain ⟨q1, q2⟩ := q_1
  subst q2
  rw [q1]
  show TT 10 4 [rv 0 (some 0), iv a, iv b, iv d, un, un, un] [iv (bI (ix 6 a).isSome)] h _ _ _
  refine r_if_eq 23 7 d_10_4 (by decide) rfl (fun c_4 => ?_) (fun c_4 => ?_)
  · skip
    refine r_iconst 24 (-1) d_10_23 rfl (by decide) ?_
    refine r_ireturn d_10_24 rfl ?_
    exact ⟨rfl, rfl⟩
  · skip
    refine r_iload_n 8 d_10_7 rfl rfl ?_
    refine r_callS (k1 := 0) (n1 := 0) (k := 0) (n := 0) 11 25 [iv b] d_10_8 rfl mk_25 lk_0_34 mv_25 rfl rfl rfl rfl _ (c_isFieldCount h b) ?_
    intro r_8 h_8 q_8
    obtain ⟨q1, q2⟩ := q_8
    subst q2
    rw [q1]
    show TT 10 11 [rv 0 (some 0), iv a, iv b, iv d, un, un, un] [iv (bI (ix 4 b).isSome)] h _ _ _
    refine r_if_eq 23 14 d_10_11 (by decide) rfl (fun c_11 => ?_) (fun c_11 => ?_)
    · skip
      refine r_iconst 24 (-1) d_10_23 rfl (by decide) ?_
      refine r_ireturn d_10_24 rfl ?_
      exact ⟨rfl, rfl⟩
    · skip
      refine r_iload_n 15 d_10_14 rfl rfl ?_
      refine r_if_lt 23 18 d_10_15 (by decide) rfl (fun c_15 => ?_) (fun c_15 => ?_)
      · skip
        refine r_iconst 24 (-1) d_10_23 rfl (by decide) ?_
        refine r_ireturn d_10_24 rfl ?_
        exact ⟨rfl, rfl⟩
      · skip
        refine r_iload_n 19 d_10_18 rfl rfl ?_
        refine r_iconst 20 (nI 3) d_10_19 rfl (by decide) ?_
        refine r_icmp_le 25 23 d_10_20 (by decide) rfl (fun c_20 => ?_) (fun c_20 => ?_)
        · skip
          exfalso
          have s1 := bI_1 c_4
          have s2 := bI_1 c_11
          rcases hb with q | q | q
          · rw [q] at s1; cases s1
          · rw [q] at s2; cases s2
          · obtain ⟨j, -, -, hj⟩ := ix_in (n := 4) (a := d) (by decide) c_15 (fun z => absurd c_20 (Int32.not_le.mpr (lt_of_le4 z)))
            rw [hj] at q
            cases q
        · skip
          refine r_iconst 24 (-1) d_10_23 rfl (by decide) ?_
          refine r_ireturn d_10_24 rfl ?_
          exact ⟨rfl, rfl⟩
theorem c_large_bad {h : AH} (a b d : Int32) (hb : ix 6 a = none ∨ ix 4 b = none ∨ d < nI 9 ∨ nI 40 < d) : TT 11 0 [rv 0 (some 0), iv a, iv b, iv d, un, un, un] [] h 0 0 (fun x h' => h' = h ∧ x = some (iv (-1))) := by
  refine r_iload_n 1 d_11_0 rfl rfl ?_
  refine r_callS (k1 := 0) (n1 := 0) (k := 0) (n := 0) 4 23 [iv a] d_11_1 rfl mk_23 lk_0_30 mv_23 rfl rfl rfl rfl _ (c_isRoot h a) ?_
  intro r_1 h_1 q_1
  obtain ⟨q1, q2⟩ := q_1
  subst q2
  rw [q1]
  show TT 11 4 [rv 0 (some 0), iv a, iv b, iv d, un, un, un] [iv (bI (ix 6 a).isSome)] h _ _ _
  refine r_if_eq 26 7 d_11_4 (by decide) rfl (fun c_4 => ?_) (fun c_4 => ?_)
  · skip
    refine r_iconst 27 (-1) d_11_26 rfl (by decide) ?_
    refine r_ireturn d_11_27 rfl ?_
    exact ⟨rfl, rfl⟩
  · skip
    refine r_iload_n 8 d_11_7 rfl rfl ?_
    refine r_callS (k1 := 0) (n1 := 0) (k := 0) (n := 0) 11 25 [iv b] d_11_8 rfl mk_25 lk_0_34 mv_25 rfl rfl rfl rfl _ (c_isFieldCount h b) ?_
    intro r_8 h_8 q_8
    obtain ⟨q1, q2⟩ := q_8
    subst q2
    rw [q1]
    show TT 11 11 [rv 0 (some 0), iv a, iv b, iv d, un, un, un] [iv (bI (ix 4 b).isSome)] h _ _ _
    refine r_if_eq 26 14 d_11_11 (by decide) rfl (fun c_11 => ?_) (fun c_11 => ?_)
    · skip
      refine r_iconst 27 (-1) d_11_26 rfl (by decide) ?_
      refine r_ireturn d_11_27 rfl ?_
      exact ⟨rfl, rfl⟩
    · skip
      refine r_iload_n 15 d_11_14 rfl rfl ?_
      refine r_bipush 17 (nI 9) d_11_15 rfl (by decide) ?_
      refine r_icmp_lt 26 20 d_11_17 (by decide) rfl (fun c_17 => ?_) (fun c_17 => ?_)
      · skip
        refine r_iconst 27 (-1) d_11_26 rfl (by decide) ?_
        refine r_ireturn d_11_27 rfl ?_
        exact ⟨rfl, rfl⟩
      · skip
        refine r_iload_n 21 d_11_20 rfl rfl ?_
        refine r_bipush 23 (nI 40) d_11_21 rfl (by decide) ?_
        refine r_icmp_le 28 26 d_11_23 (by decide) rfl (fun c_23 => ?_) (fun c_23 => ?_)
        · skip
          exfalso
          have s1 := bI_1 c_4
          have s2 := bI_1 c_11
          rcases hb with q | q | q | q
          · rw [q] at s1; cases s1
          · rw [q] at s2; cases s2
          · exact c_17 q
          · exact absurd c_23 (Int32.not_le.mpr q)
        · skip
          refine r_iconst 27 (-1) d_11_26 rfl (by decide) ?_
          refine r_ireturn d_11_27 rfl ?_
          exact ⟨rfl, rfl⟩
/-- the heap behind a region's constructor -/
def riH (h : AH) (q : Nat) (v : Int32) : AH := sI (sI (sR (nw (sI h 2 q 0 v) 4 8) 2 q 1 (some (h.1 4))) 2 q 3 (nI 0)) 2 q 5 (-1)
theorem c_Region (h : AH) (q : Nat) (v : Int32) : TT 2 0 [rv 2 (some q), iv v] [] h (0 + 1) (0 + 8) (fun x h' => x = none ∧ h' = riH h q v) := by
  refine r_aload_n 1 d_2_0 rfl rfl ?_
  refine r_obj 4 d_2_1 rfl lk_2_3 rfl rfl rfl ?_
  refine r_aload_n 5 d_2_4 rfl rfl ?_
  refine r_iload_n 6 d_2_5 rfl rfl ?_
  refine r_putI 9 2 0 d_2_6 rfl fk_2_9 (Or.inr fn_2_9) rfl rfl rfl ?_
  refine r_aload_n 10 d_2_9 rfl rfl ?_
  refine r_bipush 12 (nI 8) d_2_10 rfl (by decide) ?_
  refine r_newq 15 4 8 d_2_12 rfl nk_2_15 rfl (by omega) ?_
  refine r_putR 18 2 1 4 d_2_15 rfl fk_2_17 (Or.inr fn_2_17) rfl (by decide) (fun o => by cases o <;> exact ⟨rfl, rfl⟩) ?_
  refine r_aload_n 19 d_2_18 rfl rfl ?_
  refine r_iconst 20 (nI 0) d_2_19 rfl (by decide) ?_
  refine r_putI 23 2 3 d_2_20 rfl fk_2_21 (Or.inl rfl) rfl rfl rfl ?_
  refine r_aload_n 24 d_2_23 rfl rfl ?_
  refine r_iconst 25 (-1) d_2_24 rfl (by decide) ?_
  refine r_putI 28 2 5 d_2_25 rfl fk_2_24 (Or.inl rfl) rfl rfl rfl ?_
  refine r_return d_2_28 rfl ?_
  exact ⟨rfl, rfl⟩
