/-! contracts of the class: predicates of ints -/
theorem le_of_lt3 {a : Int32} (h : nI 3 < a) : nI 4 ≤ a := by
  rw [Int32.lt_iff_toInt_lt] at h
  rw [Int32.le_iff_toInt_le]
  have e3 : (nI 3).toInt = 3 := by decide
  have e4 : (nI 4).toInt = 4 := by decide
  omega
theorem lt_of_le4 {a : Int32} (h : nI 4 ≤ a) : nI 3 < a := by
  rw [Int32.le_iff_toInt_le] at h
  rw [Int32.lt_iff_toInt_lt]
  have e3 : (nI 3).toInt = 3 := by decide
  have e4 : (nI 4).toInt = 4 := by decide
  omega
theorem c_isRoot (h : AH) (a : Int32) : TT 23 0 [iv a] [] h 0 0 (fun r h' => h' = h ∧ r = some (iv (bI (ix 6 a).isSome))) := by
  refine r_iload_n 1 d_23_0 rfl rfl ?_
  refine r_if_lt 14 4 d_23_1 (by decide) rfl (fun c_1 => ?_) (fun c_1 => ?_)
  · skip
    refine r_iconst 15 (nI 0) d_23_14 rfl (by decide) ?_
    refine r_zreturn d_23_15 rfl rfl ?_
    refine ⟨rfl, ?_⟩
    first | (rw [ix_lt c_1]; done) | (rw [ix_lt c_1]; rfl) | (rw [ix_ge c_7]; rfl) | (obtain ⟨j, -, -, e⟩ := ix_in (by decide) c_1 c_7; rw [e]; rfl)
  · skip
    refine r_iload_n 5 d_23_4 rfl rfl ?_
    refine r_bipush 7 (nI 6) d_23_5 rfl (by decide) ?_
    refine r_icmp_ge 14 10 d_23_7 (by decide) rfl (fun c_7 => ?_) (fun c_7 => ?_)
    · skip
      refine r_iconst 15 (nI 0) d_23_14 rfl (by decide) ?_
      refine r_zreturn d_23_15 rfl rfl ?_
      refine ⟨rfl, ?_⟩
      first | (rw [ix_lt c_1]; done) | (rw [ix_lt c_1]; rfl) | (rw [ix_ge c_7]; rfl) | (obtain ⟨j, -, -, e⟩ := ix_in (by decide) c_1 c_7; rw [e]; rfl)
    · skip
      refine r_iconst 11 (nI 1) d_23_10 rfl (by decide) ?_
      refine r_goto 15 d_23_11 (by decide) ?_
      refine r_zreturn d_23_15 rfl rfl ?_
      refine ⟨rfl, ?_⟩
      first | (rw [ix_lt c_1]; done) | (rw [ix_lt c_1]; rfl) | (rw [ix_ge c_7]; rfl) | (obtain ⟨j, -, -, e⟩ := ix_in (by decide) c_1 c_7; rw [e]; rfl)
theorem c_isFieldCount (h : AH) (a : Int32) : TT 25 0 [iv a] [] h 0 0 (fun r h' => h' = h ∧ r = some (iv (bI (ix 4 a).isSome))) := by
  refine r_iload_n 1 d_25_0 rfl rfl ?_
  refine r_if_lt 13 4 d_25_1 (by decide) rfl (fun c_1 => ?_) (fun c_1 => ?_)
  · skip
    refine r_iconst 14 (nI 0) d_25_13 rfl (by decide) ?_
    refine r_zreturn d_25_14 rfl rfl ?_
    refine ⟨rfl, ?_⟩
    first | (rw [ix_lt c_1]; rfl) | (rw [ix_ge (le_of_lt3 c_6)]; rfl) | (obtain ⟨j, -, -, e⟩ := ix_in (n := 4) (by decide) c_1 (fun z => c_6 (lt_of_le4 z)); rw [e]; rfl)
  · skip
    refine r_iload_n 5 d_25_4 rfl rfl ?_
    refine r_iconst 6 (nI 3) d_25_5 rfl (by decide) ?_
    refine r_icmp_gt 13 9 d_25_6 (by decide) rfl (fun c_6 => ?_) (fun c_6 => ?_)
    · skip
      refine r_iconst 14 (nI 0) d_25_13 rfl (by decide) ?_
      refine r_zreturn d_25_14 rfl rfl ?_
      refine ⟨rfl, ?_⟩
      first | (rw [ix_lt c_1]; rfl) | (rw [ix_ge (le_of_lt3 c_6)]; rfl) | (obtain ⟨j, -, -, e⟩ := ix_in (n := 4) (by decide) c_1 (fun z => c_6 (lt_of_le4 z)); rw [e]; rfl)
    · skip
      refine r_iconst 10 (nI 1) d_25_9 rfl (by decide) ?_
      refine r_goto 14 d_25_10 (by decide) ?_
      refine r_zreturn d_25_14 rfl rfl ?_
      refine ⟨rfl, ?_⟩
      first | (rw [ix_lt c_1]; rfl) | (rw [ix_ge (le_of_lt3 c_6)]; rfl) | (obtain ⟨j, -, -, e⟩ := ix_in (n := 4) (by decide) c_1 (fun z => c_6 (lt_of_le4 z)); rw [e]; rfl)
theorem c_isRegion (h : AH) (a : Int32) : TT 26 0 [iv a] [] h 0 0 (fun r h' => h' = h ∧ r = some (iv (bI (ix 12 a).isSome))) := by
  refine r_iload_n 1 d_26_0 rfl rfl ?_
  refine r_if_lt 14 4 d_26_1 (by decide) rfl (fun c_1 => ?_) (fun c_1 => ?_)
  · skip
    refine r_iconst 15 (nI 0) d_26_14 rfl (by decide) ?_
    refine r_zreturn d_26_15 rfl rfl ?_
    refine ⟨rfl, ?_⟩
    first | (rw [ix_lt c_1]; rfl) | (rw [ix_ge c_7]; rfl) | (obtain ⟨j, -, -, e⟩ := ix_in (by decide) c_1 c_7; rw [e]; rfl)
  · skip
    refine r_iload_n 5 d_26_4 rfl rfl ?_
    refine r_bipush 7 (nI 12) d_26_5 rfl (by decide) ?_
    refine r_icmp_ge 14 10 d_26_7 (by decide) rfl (fun c_7 => ?_) (fun c_7 => ?_)
    · skip
      refine r_iconst 15 (nI 0) d_26_14 rfl (by decide) ?_
      refine r_zreturn d_26_15 rfl rfl ?_
      refine ⟨rfl, ?_⟩
      first | (rw [ix_lt c_1]; rfl) | (rw [ix_ge c_7]; rfl) | (obtain ⟨j, -, -, e⟩ := ix_in (by decide) c_1 c_7; rw [e]; rfl)
    · skip
      refine r_iconst 11 (nI 1) d_26_10 rfl (by decide) ?_
      refine r_goto 15 d_26_11 (by decide) ?_
      refine r_zreturn d_26_15 rfl rfl ?_
      refine ⟨rfl, ?_⟩
      first | (rw [ix_lt c_1]; rfl) | (rw [ix_ge c_7]; rfl) | (obtain ⟨j, -, -, e⟩ := ix_in (by decide) c_1 c_7; rw [e]; rfl)
theorem c_isRootOrNull (h : AH) (a : Int32) : TT 24 0 [iv a] [] h 0 0 (fun r h' => h' = h ∧ r = some (iv (bI (decide (a = -1) || (ix 6 a).isSome)))) := by
  refine r_iload_n 1 d_24_0 rfl rfl ?_
  refine r_iconst 2 (-1) d_24_1 rfl (by decide) ?_
  refine r_icmp_eq 12 5 d_24_2 (by decide) rfl (fun c_2 => ?_) (fun c_2 => ?_)
  · skip
    refine r_iconst 13 (nI 1) d_24_12 rfl (by decide) ?_
    refine r_goto 17 d_24_13 (by decide) ?_
    refine r_zreturn d_24_17 rfl rfl ?_
    refine ⟨rfl, ?_⟩
    first | (rw [c_2]; rfl) | (rw [bI_0 c_9, decide_eq_false c_2]; rfl) | (rw [bI_1 c_9, Bool.or_true]; rfl)
  · skip
    refine r_iload_n 6 d_24_5 rfl rfl ?_
    refine r_callS (k1 := 0) (n1 := 0) (k := 0) (n := 0) 9 23 [iv a] d_24_6 rfl mk_23 lk_0_30 mv_23 rfl rfl rfl rfl _ (c_isRoot h a) ?_
    intro r_6 h_6 q_6
    obtain ⟨q1, q2⟩ := q_6
    subst q2
    rw [q1]
    show TT 24 9 [iv a] [iv (bI (ix 6 a).isSome)] h _ _ _
    refine r_if_eq 16 12 d_24_9 (by decide) rfl (fun c_9 => ?_) (fun c_9 => ?_)
    · skip
      refine r_iconst 17 (nI 0) d_24_16 rfl (by decide) ?_
      refine r_zreturn d_24_17 rfl rfl ?_
      refine ⟨rfl, ?_⟩
      first | (rw [c_2]; rfl) | (rw [bI_0 c_9, decide_eq_false c_2]; rfl) | (rw [bI_1 c_9, Bool.or_true]; rfl)
    · skip
      refine r_iconst 13 (nI 1) d_24_12 rfl (by decide) ?_
      refine r_goto 17 d_24_13 (by decide) ?_
      refine r_zreturn d_24_17 rfl rfl ?_
      refine ⟨rfl, ?_⟩
      first | (rw [c_2]; rfl) | (rw [bI_0 c_9, decide_eq_false c_2]; rfl) | (rw [bI_1 c_9, Bool.or_true]; rfl)
theorem c_hasField (h : AH) (o : Nat) (a : Int32) (hs : ST h) (ho : o < hC h 1) (hl : hL h 4 (14 + o) < 2 ^ 31) : TT 1 0 [rv 1 (some o), iv a] [] h 0 0 (fun r h' => h' = h ∧ r = some (iv (bI (ix (hL h 4 (14 + o)) a).isSome))) := by
  refine r_iload_n 1 d_1_0 rfl rfl ?_
  refine r_if_lt 17 4 d_1_1 (by decide) rfl (fun c_1 => ?_) (fun c_1 => ?_)
  · skip
    refine r_iconst 18 (nI 0) d_1_17 rfl (by decide) ?_
    refine r_zreturn d_1_18 rfl rfl ?_
    refine ⟨rfl, ?_⟩
    first | (rw [ix_lt c_1]; rfl) | (rw [ix_ge c_10]; rfl) | (obtain ⟨j, -, -, e⟩ := ix_in hl c_1 c_10; rw [e]; rfl)
  · skip
    refine r_iload_n 5 d_1_4 rfl rfl ?_
    refine r_aload_n 6 d_1_5 rfl rfl ?_
    refine r_getR 9 1 2 4 (some (14 + o)) d_1_6 rfl fk_1_16 rfl (by decide) (ST.fld hs ho) ?_
    refine r_alen 10 4 (nI (hL h 4 (14 + o))) d_1_9 rfl (by decide) rfl ?_
    refine r_icmp_ge 17 13 d_1_10 (by decide) rfl (fun c_10 => ?_) (fun c_10 => ?_)
    · skip
      refine r_iconst 18 (nI 0) d_1_17 rfl (by decide) ?_
      refine r_zreturn d_1_18 rfl rfl ?_
      refine ⟨rfl, ?_⟩
      first | (rw [ix_lt c_1]; rfl) | (rw [ix_ge c_10]; rfl) | (obtain ⟨j, -, -, e⟩ := ix_in hl c_1 c_10; rw [e]; rfl)
    · skip
      refine r_iconst 14 (nI 1) d_1_13 rfl (by decide) ?_
      refine r_goto 18 d_1_14 (by decide) ?_
      refine r_zreturn d_1_18 rfl rfl ?_
      refine ⟨rfl, ?_⟩
      first | (rw [ix_lt c_1]; rfl) | (rw [ix_ge c_10]; rfl) | (obtain ⟨j, -, -, e⟩ := ix_in hl c_1 c_10; rw [e]; rfl)
theorem c_hasRoom (h : AH) (r : Nat) (u w : Nat) (hu : hI h 2 r 4 = nI u) (h1 : u + w < 2 ^ 31) : TT 3 0 [rv 2 (some r), iv (nI w)] [] h 0 0 (fun x h' => h' = h ∧ x = some (iv (bI (decide (u + w ≤ 16))))) := by
  refine r_aload_n 1 d_3_0 rfl rfl ?_
  refine r_getI 4 2 4 (nI u) d_3_1 rfl fk_2_27 rfl hu ?_
  refine r_iload_n 5 d_3_4 rfl rfl ?_
  refine r_iadd 6 (nI (u + w)) d_3_5 rfl (nI_add u w) ?_
  refine r_bipush 8 (nI 16) d_3_6 rfl (by decide) ?_
  refine r_icmp_gt 15 11 d_3_8 (by decide) rfl (fun c_8 => ?_) (fun c_8 => ?_)
  · skip
    refine r_iconst 16 (nI 0) d_3_15 rfl (by decide) ?_
    refine r_zreturn d_3_16 rfl rfl ?_
    refine ⟨rfl, ?_⟩
    first | (rw [decide_eq_false (Nat.not_le.mpr ((nI_ltI (by decide) h1).mp c_8))]; rfl) | (rw [decide_eq_true (Nat.not_lt.mp (fun z => c_8 ((nI_ltI (by decide) h1).mpr z)))]; rfl)
  · skip
    refine r_iconst 12 (nI 1) d_3_11 rfl (by decide) ?_
    refine r_goto 16 d_3_12 (by decide) ?_
    refine r_zreturn d_3_16 rfl rfl ?_
    refine ⟨rfl, ?_⟩
    first | (rw [decide_eq_false (Nat.not_le.mpr ((nI_ltI (by decide) h1).mp c_8))]; rfl) | (rw [decide_eq_true (Nat.not_lt.mp (fun z => c_8 ((nI_ltI (by decide) h1).mpr z)))]; rfl)
theorem c_isPartOfLarge (h : AH) (r k : Nat) (hk : hI h 2 r 3 = nI k) (h1 : k < 2 ^ 31) : TT 4 0 [rv 2 (some r)] [] h 0 0 (fun x h' => h' = h ∧ x = some (iv (bI (decide (k = 4 ∨ k = 5))))) := by
  refine r_aload_n 1 d_4_0 rfl rfl ?_
  refine r_getI 4 2 3 (nI k) d_4_1 rfl fk_2_21 rfl hk ?_
  refine r_iconst 5 (nI 4) d_4_4 rfl (by decide) ?_
  refine r_icmp_eq 16 8 d_4_5 (by decide) rfl (fun c_5 => ?_) (fun c_5 => ?_)
  · skip
    refine r_iconst 17 (nI 1) d_4_16 rfl (by decide) ?_
    refine r_goto 21 d_4_17 (by decide) ?_
    refine r_zreturn d_4_21 rfl rfl ?_
    refine ⟨rfl, ?_⟩
    first | (rw [decide_eq_true (Or.inl ((nI_eq h1 (by decide)).mp c_5))]; rfl) | (rw [decide_eq_true (Or.inr ((nI_eq h1 (by decide)).mp c_13))]; rfl) | (rw [decide_eq_false (fun z => z.elim (fun z => c_5 (by rw [z])) (fun z => c_13 (by rw [z])))]; rfl)
  · skip
    refine r_aload_n 9 d_4_8 rfl rfl ?_
    refine r_getI 12 2 3 (nI k) d_4_9 rfl fk_2_21 rfl hk ?_
    refine r_iconst 13 (nI 5) d_4_12 rfl (by decide) ?_
    refine r_icmp_ne 20 16 d_4_13 (by decide) rfl (fun c_13 => ?_) (fun c_13 => ?_)
    · skip
      refine r_iconst 21 (nI 0) d_4_20 rfl (by decide) ?_
      refine r_zreturn d_4_21 rfl rfl ?_
      refine ⟨rfl, ?_⟩
      first | (rw [decide_eq_true (Or.inl ((nI_eq h1 (by decide)).mp c_5))]; rfl) | (rw [decide_eq_true (Or.inr ((nI_eq h1 (by decide)).mp c_13))]; rfl) | (rw [decide_eq_false (fun z => z.elim (fun z => c_5 (by rw [z])) (fun z => c_13 (by rw [z])))]; rfl)
    · skip
      refine r_iconst 17 (nI 1) d_4_16 rfl (by decide) ?_
      refine r_goto 21 d_4_17 (by decide) ?_
      refine r_zreturn d_4_21 rfl rfl ?_
      refine ⟨rfl, ?_⟩
      first | (rw [decide_eq_true (Or.inl ((nI_eq h1 (by decide)).mp c_5))]; rfl) | (rw [decide_eq_true (Or.inr ((nI_eq h1 (by decide)).mp c_13))]; rfl) | (rw [decide_eq_false (fun z => z.elim (fun z => c_5 (by rw [z])) (fun z => c_13 (by rw [z])))]; rfl)
/-- the heap behind clear -/
def clH (h : AH) (r : Nat) : AH := sI (sI (sI (sI h 2 r 3 (nI 0)) 2 r 4 (nI 0)) 2 r 5 (-1)) 2 r 2 (nI 0)
theorem c_clear (h : AH) (r : Nat) : TT 6 0 [rv 2 (some r)] [] h 0 0 (fun x h' => h' = clH h r ∧ x = none) := by
  refine r_aload_n 1 d_6_0 rfl rfl ?_
  refine r_iconst 2 (nI 0) d_6_1 rfl (by decide) ?_
  refine r_putI 5 2 3 d_6_2 rfl fk_2_21 (Or.inl rfl) rfl rfl rfl ?_
  refine r_aload_n 6 d_6_5 rfl rfl ?_
  refine r_iconst 7 (nI 0) d_6_6 rfl (by decide) ?_
  refine r_putI 10 2 4 d_6_7 rfl fk_2_27 (Or.inl rfl) rfl rfl rfl ?_
  refine r_aload_n 11 d_6_10 rfl rfl ?_
  refine r_iconst 12 (-1) d_6_11 rfl (by decide) ?_
  refine r_putI 15 2 5 d_6_12 rfl fk_2_24 (Or.inl rfl) rfl rfl rfl ?_
  refine r_aload_n 16 d_6_15 rfl rfl ?_
  refine r_iconst 17 (nI 0) d_6_16 rfl (by decide) ?_
  refine r_putI 20 2 2 d_6_17 rfl fk_2_37 (Or.inl rfl) rfl rfl rfl ?_
  refine r_return d_6_20 rfl ?_
  exact ⟨rfl, rfl⟩
/-- the heap behind append -/
def apH (h : AH) (r o c : Nat) : AH := sI (sI (sR (sI (sR h 1 o 3 (some r)) 1 o 4 (hI h 2 r 4)) 4 r c (some o)) 2 r 2 (nI (c + 1))) 2 r 4 (hI h 2 r 4 + hI h 1 o 1)
theorem c_append (h : AH) (r o c : Nat) (hs : ST h) (hr : r < 12) (hc : hI h 2 r 2 = nI c) (hc8 : c < 8) : TT 5 0 [rv 2 (some r), rv 1 (some o)] [] h 0 0 (fun x h' => h' = apH h r o c ∧ x = none) := by
  refine r_aload_n 1 d_5_0 rfl rfl ?_
  refine r_aload_n 2 d_5_1 rfl rfl ?_
  refine r_putR 5 1 3 2 d_5_2 rfl fk_2_30 (Or.inl rfl) rfl (by decide) (fun o => by cases o <;> exact ⟨rfl, rfl⟩) ?_
  refine r_aload_n 6 d_5_5 rfl rfl ?_
  refine r_aload_n 7 d_5_6 rfl rfl ?_
  refine r_getI 10 2 4 (hI h 2 r 4) d_5_7 rfl fk_2_27 rfl rfl ?_
  refine r_putI 13 1 4 d_5_10 rfl fk_2_34 (Or.inl rfl) rfl rfl rfl ?_
  refine r_aload_n 14 d_5_13 rfl rfl ?_
  refine r_getR 17 2 1 4 (some r) d_5_14 rfl fk_2_17 rfl (by decide) (ST.itm (ST_sI (ST_sR hs rfl) rfl) hr) ?_
  refine r_aload_n 18 d_5_17 rfl rfl ?_
  refine r_getI 21 2 2 (nI c) d_5_18 rfl fk_2_37 rfl hc ?_
  refine r_aload_n 22 d_5_21 rfl rfl ?_
  refine r_aast 23 4 1 c d_5_22 rfl (Or.inl ⟨rfl, rfl⟩) rfl (ST.lit (ST_sI (ST_sR hs rfl) rfl) hr hc8) ?_
  refine r_aload_n 24 d_5_23 rfl rfl ?_
  refine r_dup 25 d_5_24 rfl rfl ?_
  refine r_getI 28 2 2 (nI c) d_5_25 rfl fk_2_37 rfl hc ?_
  refine r_iconst 29 (nI 1) d_5_28 rfl (by decide) ?_
  refine r_iadd 30 (nI (c + 1)) d_5_29 rfl (nI_add c 1) ?_
  refine r_putI 33 2 2 d_5_30 rfl fk_2_37 (Or.inl rfl) rfl rfl rfl ?_
  refine r_aload_n 34 d_5_33 rfl rfl ?_
  refine r_dup 35 d_5_34 rfl rfl ?_
  refine r_getI 38 2 4 (hI h 2 r 4) d_5_35 rfl fk_2_27 rfl (by simp [hI_sI, hI_sR]) ?_
  refine r_aload_n 39 d_5_38 rfl rfl ?_
  refine r_getI 42 1 1 (hI h 1 o 1) d_5_39 rfl fk_2_40 rfl (by simp [hI_sI, hI_sR]) ?_
  refine r_iadd 43 ((hI h 2 r 4) + (hI h 1 o 1)) d_5_42 rfl rfl ?_
  refine r_putI 46 2 4 d_5_43 rfl fk_2_27 (Or.inl rfl) rfl rfl rfl ?_
  refine r_return d_5_46 rfl ?_
  exact ⟨rfl, rfl⟩
theorem c_heldBy (h : AH) (a : Int32) (hs : ST h) : TT 22 0 [rv 0 (some 0), iv a] [] h 0 0 (fun x h' => h' = h ∧ x = some (rv 1 ((ix 6 a).bind (hR h 4 12)))) := by
  refine r_iload_n 1 d_22_0 rfl rfl ?_
  refine r_callS (k1 := 0) (n1 := 0) (k := 0) (n := 0) 4 23 [iv a] d_22_1 rfl mk_23 lk_0_30 mv_23 rfl rfl rfl rfl _ (c_isRoot h a) ?_
  intro r_1 h_1 q_1
  obtain ⟨q1, q2⟩ := q_1
  subst q2
  rw [q1]
  show TT 22 4 [rv 0 (some 0), iv a] [iv (bI (ix 6 a).isSome)] h _ _ _
  refine r_if_eq 16 7 d_22_4 (by decide) rfl (fun c_4 => ?_) (fun c_4 => ?_)
  · skip
    refine r_null 17 0 d_22_16 rfl ?_
    refine r_areturn d_22_17 rfl ?_
    refine ⟨rfl, ?_⟩
    first | (rw [ej]; rfl) | (rw [Option.isSome_eq_false_iff.mp (bI_0 c_4) |> Option.isNone_iff_eq_none.mp]; rfl)
  · skip
    obtain ⟨j, ej⟩ := Option.isSome_iff_exists.mp (bI_1 c_4)
    obtain ⟨hj, rfl⟩ := ix_some (by decide) ej
    refine r_aload_n 8 d_22_7 rfl rfl ?_
    refine r_getR 11 0 1 4 (some 12) d_22_8 rfl fk_0_20 rfl (by decide) (ST.roo hs) ?_
    refine r_iload_n 12 d_22_11 rfl rfl ?_
    refine r_aald 13 4 1 j (hR h 4 12 j) d_22_12 rfl (Or.inl ⟨rfl, rfl⟩) rfl (hs.lro hj) rfl ?_
    refine r_goto 17 d_22_13 (by decide) ?_
    refine r_areturn d_22_17 rfl ?_
    refine ⟨rfl, ?_⟩
    first | (rw [ej]; rfl) | (rw [Option.isSome_eq_false_iff.mp (bI_0 c_4) |> Option.isNone_iff_eq_none.mp]; rfl)
