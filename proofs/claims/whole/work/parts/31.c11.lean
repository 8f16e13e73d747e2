/-! contracts of the class: collectFully -/
def endS (T : SS) : SS := mkS (kd T) (us T) (lw T) (itm T) (ro T) (wd T) (fd T) (hm T) (so T) none (va_up (ct T) 1 (ct T 1 + 1))
theorem rc_end {h : AH} {T : SS} (c : RC h T) : RC (sI (sR h 0 0 5 none) 0 0 7 (nI (ct T 1 + 1))) (endS T) :=
  ⟨ST_sI (ST_sR c.st rfl) rfl, c.2.1, c.2.2.1, c.2.2.2.1, c.2.2.2.2.1, c.2.2.2.2.2.1, rfl, c.ct0, rfl, c.ct2, c.ct3⟩
def fulS (S : SS) (fl : List Nat) : SS := endS (lay 12 0 (tuS S fl 12) (tuL S fl 12)).1
theorem LPk_tu {S : SS} {fl : List Nat} (b : BD S) : LPk (tuS S fl 12) 0 := by
  intro r _ hr
  show (if gone S fl 12 r = true then 0 else kd S r) ≤ 5 ∧ (big (if gone S fl 12 r = true then 0 else kd S r) = false → 2 * (if gone S fl 12 r = true then [] else itm S r).length ≤ (if gone S fl 12 r = true then 0 else us S r) ∧ (if gone S fl 12 r = true then 0 else us S r) ≤ 16)
  by_cases e : gone S fl 12 r = true
  · simp only [if_pos e]
    exact ⟨by omega, fun _ => ⟨by simp, by omega⟩⟩
  · simp only [if_neg e]
    refine ⟨b.kd hr, fun hb => absurd ?_ e⟩
    unfold gone
    rw [hb, decide_eq_true hr]
    rfl
theorem tuL_mem {S : SS} {fl : List Nat} : ∀ n, n ≤ 12 → ∀ o, o ∈ tuL S fl n → o ∈ all S ∧ o ∈ fl
  | 0, _, o, h => by cases h
  | n + 1, hn, o, h => by
    unfold tuL at h
    rcases List.mem_append.mp h with q | q
    · exact tuL_mem n (by omega) o q
    · split at q
      · cases q
      · exact ⟨mem_all.mpr ⟨n, by omega, (List.mem_filter.mp q).1⟩, of_decide_eq_true (List.mem_filter.mp q).2⟩
/-- the reached ones, as a list -/
def RL (S : SS) (fl : List Nat) : Prop := fl.Nodup ∧ (∀ o ∈ fl, o ∈ all S) ∧ ∀ o, o ∈ fl ↔ Rch S o
theorem c_collectFully {h : AH} {S : SS} (c : RC h S) (b : BD S) (cl : CL S) (h2 : ∀ o, o ∈ all S → 2 ≤ wd S o) : TT 48 0 [rv 0 (some 0), un] [] h 0 0 (fun x h' => ∃ fl, RL S fl ∧ x = some (iv (nI fl.length)) ∧ RC h' (fulS S fl) ∧ CF h h') := by
  refine r_aload_n 1 d_48_0 rfl rfl ?_
  refine r_callV (k1 := 0) (n1 := 0) (k := 0) (n := 0) 4 44 0 [] d_48_1 rfl mk_44 lk_0_216 mv_44 rfl rfl rfl rfl rfl _ (c_findReached c b cl) ?_
  intro r_1 h_1 q_1
  obtain ⟨fl, q1, q2, q3, q4, q5⟩ := q_1
  subst q1
  show TT 48 4 [rv 0 (some 0), un] [iv (nI (sw S fl))] h_1 _ _ _
  refine r_pop 5 d_48_4 rfl rfl ?_
  refine r_aload_n 6 d_48_5 rfl rfl ?_
  refine r_getI 9 0 3 (nI fl.length) d_48_6 rfl fk_0_140 rfl q3.1.1 ?_
  refine r_istore_n 10 [rv 0 (some 0), iv (nI fl.length)] d_48_9 rfl rfl rfl ?_
  refine r_aload_n 11 d_48_10 rfl rfl ?_
  refine r_callV (k1 := 0) (n1 := 0) (k := 0) (n := 0) 14 49 0 [] d_48_11 rfl mk_49 lk_0_234 mv_49 rfl rfl rfl rfl rfl _ (c_takeUpSmall q2 b q3.2.1) ?_
  intro r_11 h_11 q_11
  obtain ⟨p1, p2, p3, p4⟩ := q_11
  subst p1
  have hlen := tuL_len (fl := fl) b 12 (Nat.le_refl _)
  show TT 48 14 [rv 0 (some 0), iv (nI fl.length)] [] h_11 _ _ _
  refine r_aload_n 15 d_48_14 rfl rfl ?_
  refine r_callV (k1 := 0) (n1 := 0) (k := 0) (n := 0) 18 51 0 [] d_48_15 rfl mk_51 lk_0_237 mv_51 rfl rfl rfl rfl rfl _ (c_layTogether p2 p3 (LPk_tu b) (fun o ho => ⟨c.mlt (tuL_mem 12 (Nat.le_refl _) o ho).1, h2 o (tuL_mem 12 (Nat.le_refl _) o ho).1, b.wd (c.mlt (tuL_mem 12 (Nat.le_refl _) o ho).1)⟩) (by omega)) ?_
  intro r_15 h_15 q_15
  obtain ⟨w1, w2, w3⟩ := q_15
  subst w1
  show TT 48 18 [rv 0 (some 0), iv (nI fl.length)] [] h_15 _ _ _
  refine r_aload_n 19 d_48_18 rfl rfl ?_
  refine r_null 20 2 d_48_19 rfl ?_
  refine r_putR 23 0 5 2 d_48_20 rfl fk_0_83 (Or.inl rfl) rfl (by decide) (fun o => by cases o <;> exact ⟨rfl, rfl⟩) ?_
  refine r_aload_n 24 d_48_23 rfl rfl ?_
  refine r_dup 25 d_48_24 rfl rfl ?_
  refine r_getI 28 0 7 (nI (ct (lay 12 0 (tuS S fl 12) (tuL S fl 12)).1 1)) d_48_25 rfl fk_0_240 rfl w2.ct1 ?_
  refine r_iconst 29 (nI 1) d_48_28 rfl (by decide) ?_
  refine r_iadd 30 (nI ((ct (lay 12 0 (tuS S fl 12) (tuL S fl 12)).1 1) + 1)) d_48_29 rfl (nI_add (ct (lay 12 0 (tuS S fl 12) (tuL S fl 12)).1 1) 1) ?_
  refine r_putI 33 0 7 d_48_30 rfl fk_0_240 (Or.inl rfl) rfl rfl rfl ?_
  refine r_iload_n 34 d_48_33 rfl rfl ?_
  refine r_ireturn d_48_34 rfl ?_
  exact ⟨fl, ⟨q3.2.2.1, q3.2.2.2, q4⟩, rfl, rc_end w2, CF_sI (CF_sR ((q5.tr p4).tr w3) rfl) rfl⟩
theorem c_full {h : AH} {S : SS} (c : RC h S) (b : BD S) (cl : CL S) (h2 : ∀ o, o ∈ all S → 2 ≤ wd S o) : TT 47 0 [rv 0 (some 0)] [] h 0 0 (fun x h' => ∃ fl, RL S fl ∧ x = some (iv (nI fl.length)) ∧ RC h' (fulS S fl) ∧ CF h h') := by
  refine r_aload_n 1 d_47_0 rfl rfl ?_
  refine r_callV (k1 := 0) (n1 := 0) (k := 0) (n := 0) 4 48 0 [] d_47_1 rfl mk_48 lk_0_60 mv_48 rfl rfl rfl rfl rfl _ (c_collectFully c b cl h2) ?_
  intro r_1 h_1 q_1
  obtain ⟨fl, q1, q2, q3, q4⟩ := q_1
  subst q2
  show TT 47 4 [rv 0 (some 0)] [iv (nI fl.length)] h_1 _ _ _
  refine r_ireturn d_47_4 rfl ?_
  exact ⟨fl, q1, rfl, q3, q4⟩
