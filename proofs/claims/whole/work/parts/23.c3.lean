/-! contracts of the class: a place for a young object -/
/-- the first of n from r on -/
def fst (p : Nat → Bool) : Nat → Nat → Option Nat
  | 0, _ => none
  | n + 1, r => if p r = true then some r else fst p n (r + 1)
def oldR (S : SS) (w r : Nat) : Bool := isk S 3 r && decide (us S r + w ≤ 16)
theorem c_leastOldWithRoom {h : AH} {S : SS} (c : RC h S) (b : BD S) (w : Nat) (hw : w ≤ 100) : TT 16 0 [rv 0 (some 0), iv (nI w), un] [] h 0 0 (fun x h' => h' = h ∧ x = some (rv 2 (fst (oldR S w) 12 0))) := by
  have loop : ∀ n r, r + n = 12 → TT 16 2 [rv 0 (some 0), iv (nI w), iv (nI r)] [] h 0 0 (fun x h' => h' = h ∧ x = some (rv 2 (fst (oldR S w) n r))) := by
    intro n
    induction n with
    | zero =>
      intro r hr
      obtain rfl : r = 12 := by omega
      refine r_iload_n 3 d_16_2 rfl rfl ?_
      refine r_bipush 5 (nI 12) d_16_3 rfl (by decide) ?_
      refine r_icmp_ge 47 8 d_16_5 (by decide) rfl (fun c_5 => ?_) (fun c_5 => absurd (nI_le (Nat.le_refl _) (by decide)) c_5)
      refine r_null 48 2 d_16_47 rfl ?_
      refine r_areturn d_16_48 rfl ?_
      exact ⟨rfl, rfl⟩
    | succ n ih =>
      intro r hr
      have hr12 : r < 12 := by omega
      have hk := b.kd hr12
      have hu := b.us hr12
      refine r_iload_n 3 d_16_2 rfl rfl ?_
      refine r_bipush 5 (nI 12) d_16_3 rfl (by decide) ?_
      refine r_icmp_ge 47 8 d_16_5 (by decide) rfl (fun c_5 => absurd c_5 (nI_ge hr12 (by decide))) (fun c_5 => ?_)
      refine r_aload_n 9 d_16_8 rfl rfl ?_
      refine r_getR 12 0 0 5 (some 0) d_16_9 rfl fk_0_11 rfl (by decide) (ST.reg c.st) ?_
      refine r_iload_n 13 d_16_12 rfl rfl ?_
      refine r_aald 14 5 2 r (some r) d_16_13 rfl (Or.inr ⟨rfl, rfl⟩) rfl (ST.l50 c.st hr12) (ST.rat c.st hr12) ?_
      refine r_getI 17 2 3 (nI (kd S r)) d_16_14 rfl fk_0_93 rfl (c.kd hr12) ?_
      refine r_iconst 18 (nI 3) d_16_17 rfl (by decide) ?_
      refine r_icmp_ne 41 21 d_16_18 (by decide) rfl (fun c_18 => ?_) (fun c_18 => ?_)
      · skip
        refine r_iinc 44 (nI (r + 1)) [rv 0 (some 0), iv (nI w), iv (nI (r + 1))] d_16_41 rfl rfl (nI_1 r) rfl rfl ?_
        refine r_goto 2 d_16_44 (by decide) ?_
        have z := ih (r + 1) (by omega)
        rw [fst, if_neg]
        · exact z
        · first | (rw [oldR, isk_f c_18]; exact Bool.false_ne_true) | (rw [oldR, bI_0 c_31, Bool.and_false]; exact Bool.false_ne_true)
      · skip
        refine r_aload_n 22 d_16_21 rfl rfl ?_
        refine r_getR 25 0 0 5 (some 0) d_16_22 rfl fk_0_11 rfl (by decide) (ST.reg c.st) ?_
        refine r_iload_n 26 d_16_25 rfl rfl ?_
        refine r_aald 27 5 2 r (some r) d_16_26 rfl (Or.inr ⟨rfl, rfl⟩) rfl (ST.l50 c.st hr12) (ST.rat c.st hr12) ?_
        refine r_iload_n 28 d_16_27 rfl rfl ?_
        refine r_callV (k1 := 0) (n1 := 0) (k := 0) (n := 0) 31 3 2 [iv (nI w)] d_16_28 rfl mk_3 lk_0_87 mv_3 rfl rfl rfl rfl rfl _ (c_hasRoom h r (us S r) w (c.us hr12) (by omega)) ?_
        intro r_28 h_28 q_28
        obtain ⟨q1, q2⟩ := q_28
        subst q2
        rw [q1]
        show TT 16 31 [rv 0 (some 0), iv (nI w), iv (nI r)] [iv (bI (decide (us S r + w ≤ 16)))] h _ _ _
        refine r_if_eq 41 34 d_16_31 (by decide) rfl (fun c_31 => ?_) (fun c_31 => ?_)
        · skip
          refine r_iinc 44 (nI (r + 1)) [rv 0 (some 0), iv (nI w), iv (nI (r + 1))] d_16_41 rfl rfl (nI_1 r) rfl rfl ?_
          refine r_goto 2 d_16_44 (by decide) ?_
          have z := ih (r + 1) (by omega)
          rw [fst, if_neg]
          · exact z
          · first | (rw [oldR, isk_f c_18]; exact Bool.false_ne_true) | (rw [oldR, bI_0 c_31, Bool.and_false]; exact Bool.false_ne_true)
        · skip
          refine r_aload_n 35 d_16_34 rfl rfl ?_
          refine r_getR 38 0 0 5 (some 0) d_16_35 rfl fk_0_11 rfl (by decide) (ST.reg c.st) ?_
          refine r_iload_n 39 d_16_38 rfl rfl ?_
          refine r_aald 40 5 2 r (some r) d_16_39 rfl (Or.inr ⟨rfl, rfl⟩) rfl (ST.l50 c.st hr12) (ST.rat c.st hr12) ?_
          refine r_areturn d_16_40 rfl ?_
          refine ⟨rfl, ?_⟩
          rw [fst, if_pos (by rw [oldR, isk_t b hr12 (by decide) c_18, bI_1 c_31]; rfl)]
  refine r_iconst 1 (nI 0) d_16_0 rfl (by decide) ?_
  refine r_istore_n 2 [rv 0 (some 0), iv (nI w), iv (nI 0)] d_16_1 rfl rfl rfl ?_
  exact loop 12 0 rfl
/-- a free region becomes the young region in use -/
def edH (h : AH) (f : Nat) : AH := sI (sR h 0 0 5 (some f)) 2 f 3 (nI 1)
def edS (S : SS) (f : Nat) : SS := mkS (va_up (kd S) f 1) (us S) (lw S) (itm S) (ro S) (wd S) (fd S) (hm S) (so S) (some f) (ct S)
theorem nI_up {f : Nat → Nat} {k v r : Nat} {x : Int32} (h : x = nI (f r)) : (if r = k then nI v else x) = nI (va_up f k v r) := by
  unfold va_up
  split
  · rfl
  · exact h
theorem rc_ed {h : AH} {S : SS} (c : RC h S) {f : Nat} : RC (edH h f) (edS S f) := by
  refine ⟨ST_sI (ST_sR c.st rfl) rfl, fun r hr => ⟨?_, c.us hr, c.lw hr, c.ic hr, (c.2.1 r hr).2.2.2.2⟩, c.2.2.1, c.2.2.2.1, c.2.2.2.2.1, c.2.2.2.2.2.1, rfl, c.2.2.2.2.2.2.2⟩
  show (if 2 = 2 ∧ 3 = 3 ∧ r = f then nI 1 else hI h 2 r 3) = nI (va_up (kd S) f 1 r)
  rw [← nI_up (c.kd hr)]
  simp
/-- where a young object of w words may lie -/
def edP (S : SS) (w : Nat) : Option Nat × SS :=
  match (cu S).filter (fun r => decide (us S r + w ≤ 16)) with
  | some r => (some r, S)
  | none => match lfr (isk S 0) 1 12 0 0 with
    | none => (none, S)
    | some f => if 3 ≤ cn (isk S 1) 12 then (none, S) else (some f, edS S f)
theorem lfr_lt {f : Nat → Bool} {nd : Nat} (hn : 0 < nd) : ∀ n r run j, lfr f nd n r run = some j → j < r + n
  | 0, _, _, _, h => by cases h
  | n + 1, r, run, j, h => by
    rw [lfr] at h
    generalize (if f r = true then run + 1 else 0) = run' at h
    by_cases e : run' = nd
    · rw [if_pos e] at h; cases h; omega
    · rw [if_neg e] at h; have := lfr_lt hn n (r + 1) _ j h; omega
/-- the model's cells stay as they are -/
def mS (s : Nat) : Bool := s == 3 || s == 6 || s == 7 || s == 8
def CF (h h' : AH) : Prop := ∀ s, mS s = true → hC h' s = hC h s ∧ (∀ i, hL h' s i = hL h s i) ∧ (∀ i k, hI h' s i k = hI h s i k) ∧ ∀ i k, hR h' s i k = hR h s i k
theorem CF.rf (h : AH) : CF h h := fun _ _ => ⟨rfl, fun _ => rfl, fun _ _ => rfl, fun _ _ => rfl⟩
theorem CF.tr {h h1 h2 : AH} (a : CF h h1) (b : CF h1 h2) : CF h h2 := fun s hs =>
  ⟨(b s hs).1.trans (a s hs).1, fun i => ((b s hs).2.1 i).trans ((a s hs).2.1 i), fun i k => ((b s hs).2.2.1 i k).trans ((a s hs).2.2.1 i k), fun i k => ((b s hs).2.2.2 i k).trans ((a s hs).2.2.2 i k)⟩
theorem CF_sI {h h1 : AH} (a : CF h h1) {s i k : Nat} {v : Int32} (hs : mS s = false) : CF h (sI h1 s i k v) := fun s' hs' => by
  obtain ⟨a1, a2, a3, a4⟩ := a s' hs'
  refine ⟨a1, a2, fun i' k' => ?_, a4⟩
  rw [hI_sI, if_neg]
  · exact a3 i' k'
  · rintro ⟨rfl, -, -⟩
    rw [hs] at hs'
    cases hs'
theorem CF_sR {h h1 : AH} (a : CF h h1) {s i k : Nat} {v : Option Nat} (hs : mS s = false) : CF h (sR h1 s i k v) := fun s' hs' => by
  obtain ⟨a1, a2, a3, a4⟩ := a s' hs'
  refine ⟨a1, a2, a3, fun i' k' => ?_⟩
  rw [hR_sR, if_neg]
  · exact a4 i' k'
  · rintro ⟨rfl, -, -⟩
    rw [hs] at hs'
    cases hs'
theorem ol_neg {x : Option Nat} (hx : ∀ j, x = some j → j < 2 ^ 31) : ol x < 0 ↔ x = none := by
  cases x with
  | none => exact ⟨fun _ => rfl, fun _ => (by decide)⟩
  | some j => exact ⟨fun h => absurd h (nI_pos (hx j rfl)), fun h => by cases h⟩
theorem c_edenPlace {h : AH} {S : SS} (c : RC h S) (b : BD S) (w : Nat) (hw : w ≤ 100) (hcu : ∀ r, cu S = some r → r < 12) : TT 14 0 [rv 0 (some 0), iv (nI w), un] [] h 0 0 (fun x h' => x = some (rv 2 (edP S w).1) ∧ RC h' (edP S w).2 ∧ CF h h') := by
  have look : (cu S).filter (fun r => decide (us S r + w ≤ 16)) = none → TT 14 23 [rv 0 (some 0), iv (nI w), un] [] h 0 0 (fun x h' => x = some (rv 2 (edP S w).1) ∧ RC h' (edP S w).2 ∧ CF h h') := by
    intro hno
    have hlt := fun j => lfr_lt (f := isk S 0) (nd := 1) (by decide) 12 0 0 j
    have hcn := cn_le (isk S 1) 12
    refine r_aload_n 24 d_14_23 rfl rfl ?_
    refine r_iconst 25 (nI 1) d_14_24 rfl (by decide) ?_
    refine r_callV (k1 := 0) (n1 := 0) (k := 0) (n := 0) 28 17 0 [iv (nI 1)] d_14_25 rfl mk_17 lk_0_56 mv_17 rfl rfl rfl rfl rfl _ (c_leastFreeRun c b 1 (by decide) (by decide)) ?_
    intro r_25 h_25 q_25
    obtain ⟨q1, q2⟩ := q_25
    subst q2
    rw [q1]
    show TT 14 28 [rv 0 (some 0), iv (nI w), un] [iv (ol (lfr (isk S 0) 1 12 0 0))] h _ _ _
    refine r_istore_n 29 [rv 0 (some 0), iv (nI w), iv (ol (lfr (isk S 0) 1 12 0 0))] d_14_28 rfl rfl rfl ?_
    refine r_iload_n 30 d_14_29 rfl rfl ?_
    refine r_if_lt 41 33 d_14_30 (by decide) rfl (fun c_30 => ?_) (fun c_30 => ?_)
    · skip
      refine r_null 42 2 d_14_41 rfl ?_
      refine r_areturn d_14_42 rfl ?_
      first | (have e := (ol_neg (fun j hj => by have := hlt j hj; omega)).mp c_30; refine ⟨?_, ?_, CF.rf h⟩ <;> simp only [edP, hno, e]; exact c) | (have e := fun z => c_38 ((nI_ltI (by omega) (by decide)).mpr z); refine ⟨?_, ?_, CF.rf h⟩ <;> simp only [edP, hno, hf, if_pos (Nat.not_lt.mp e)]; exact c)
    · skip
      obtain ⟨f, hf⟩ : ∃ f, lfr (isk S 0) 1 12 0 0 = some f := Option.ne_none_iff_exists'.mp (fun z => c_30 ((ol_neg (fun j hj => by have := hlt j hj; omega)).mpr z))
      have hf12 : f < 12 := by have := hlt f hf; omega
      refine r_aload_n 34 d_14_33 rfl rfl ?_
      refine r_callV (k1 := 0) (n1 := 0) (k := 0) (n := 0) 37 15 0 [] d_14_34 rfl mk_15 lk_0_90 mv_15 rfl rfl rfl rfl rfl _ (c_edenCount c b) ?_
      intro r_34 h_34 q_34
      obtain ⟨q1, q2⟩ := q_34
      subst q2
      rw [q1]
      show TT 14 37 [rv 0 (some 0), iv (nI w), iv (ol (lfr (isk S 0) 1 12 0 0))] [iv (nI (cn (isk S 1) 12))] h _ _ _
      refine r_iconst 38 (nI 3) d_14_37 rfl (by decide) ?_
      refine r_icmp_lt 43 41 d_14_38 (by decide) rfl (fun c_38 => ?_) (fun c_38 => ?_)
      · skip
        refine r_aload_n 44 d_14_43 rfl rfl ?_
        refine r_aload_n 45 d_14_44 rfl rfl ?_
        refine r_getR 48 0 0 5 (some 0) d_14_45 rfl fk_0_11 rfl (by decide) (ST.reg c.st) ?_
        refine r_iload_n 49 d_14_48 rfl rfl ?_
        refine r_aald 50 5 2 f (some f) d_14_49 rfl (Or.inr ⟨rfl, rfl⟩) (by rw [hf]; rfl) (c.st.l50 hf12) (c.st.rat hf12) ?_
        refine r_putR 53 0 5 2 d_14_50 rfl fk_0_83 (Or.inl rfl) rfl (by decide) (fun o => by cases o <;> exact ⟨rfl, rfl⟩) ?_
        refine r_aload_n 54 d_14_53 rfl rfl ?_
        refine r_getR 57 0 5 2 (some f) d_14_54 rfl fk_0_83 rfl (by decide) rfl ?_
        refine r_iconst 58 (nI 1) d_14_57 rfl (by decide) ?_
        refine r_putI 61 2 3 d_14_58 rfl fk_0_93 (Or.inl rfl) rfl rfl rfl ?_
        refine r_aload_n 62 d_14_61 rfl rfl ?_
        refine r_getR 65 0 5 2 (some f) d_14_62 rfl fk_0_83 rfl (by decide) rfl ?_
        refine r_areturn d_14_65 rfl ?_
        have e := (nI_ltI (by omega) (by decide)).mp c_38
        refine ⟨?_, ?_, CF_sI (CF_sR (CF.rf h) rfl) rfl⟩ <;> simp only [edP, hno, hf, if_neg (Nat.not_le.mpr e)]
        exact rc_ed c
      · skip
        refine r_null 42 2 d_14_41 rfl ?_
        refine r_areturn d_14_42 rfl ?_
        first | (have e := (ol_neg (fun j hj => by have := hlt j hj; omega)).mp c_30; refine ⟨?_, ?_, CF.rf h⟩ <;> simp only [edP, hno, e]; exact c) | (have e := fun z => c_38 ((nI_ltI (by omega) (by decide)).mpr z); refine ⟨?_, ?_, CF.rf h⟩ <;> simp only [edP, hno, hf, if_pos (Nat.not_lt.mp e)]; exact c)
  cases hc : cu S with
  | none =>
    refine r_aload_n 1 d_14_0 rfl rfl ?_
    refine r_getR 4 0 5 2 none d_14_1 rfl fk_0_83 rfl (by decide) (c.cu.trans hc) ?_
    refine r_ifnull 23 7 d_14_4 (by decide) rfl (fun c_4 => ?_) (fun i_4 c_4 => absurd c_4 (by simp))
    exact look (by rw [hc]; rfl)
  | some r =>
    have hr := hcu r hc
    have hu := b.us hr
    refine r_aload_n 1 d_14_0 rfl rfl ?_
    refine r_getR 4 0 5 2 (some r) d_14_1 rfl fk_0_83 rfl (by decide) (c.cu.trans hc) ?_
    refine r_ifnull 23 7 d_14_4 (by decide) rfl (fun c_4 => absurd c_4 (by simp)) (fun i_4 c_4 => ?_)
    refine r_aload_n 8 d_14_7 rfl rfl ?_
    refine r_getR 11 0 5 2 (some r) d_14_8 rfl fk_0_83 rfl (by decide) (c.cu.trans hc) ?_
    refine r_iload_n 12 d_14_11 rfl rfl ?_
    refine r_callV (k1 := 0) (n1 := 0) (k := 0) (n := 0) 15 3 2 [iv (nI w)] d_14_12 rfl mk_3 lk_0_87 mv_3 rfl rfl rfl rfl rfl _ (c_hasRoom h r (us S r) w (c.us hr) (by omega)) ?_
    intro r_12 h_12 q_12
    obtain ⟨q1, q2⟩ := q_12
    subst q2
    rw [q1]
    show TT 14 15 [rv 0 (some 0), iv (nI w), un] [iv (bI (decide (us S r + w ≤ 16)))] h _ _ _
    refine r_if_eq 23 18 d_14_15 (by decide) rfl (fun c_15 => ?_) (fun c_15 => ?_)
    · skip
      exact look (by rw [hc]; simp only [Option.filter, bI_0 c_15]; rfl)
    · skip
      refine r_aload_n 19 d_14_18 rfl rfl ?_
      refine r_getR 22 0 5 2 (some r) d_14_19 rfl fk_0_83 rfl (by decide) (c.cu.trans hc) ?_
      refine r_areturn d_14_22 rfl ?_
      have e : (cu S).filter (fun r => decide (us S r + w ≤ 16)) = some r := by rw [hc]; simp only [Option.filter, bI_1 c_15, if_true]
      refine ⟨?_, ?_, CF.rf h⟩ <;> simp only [edP, e]
      exact c
