/-! functions for what calls do: collections -/
noncomputable def fl0 (S : SS) : List Nat := Classical.epsilon (RL S)
theorem fl0_ok {S : SS} {fl : List Nat} (h : RL S fl) : RL S (fl0 S) := Classical.epsilon_spec ⟨fl, h⟩
theorem rin_eq {S : SS} {fl fl' : List Nat} (h : RL S fl) (h' : RL S fl') : rin fl = rin fl' := by
  funext o
  unfold rin
  congr 1
  exact propext ((h.2.2 o).trans (h'.2.2 o).symm)
theorem swr_eq {S : SS} {fl fl' : List Nat} (e : rin fl = rin fl') : swr S fl = swr S fl' := by
  funext r
  unfold swr
  rw [e]
theorem stay_eq {S : SS} {fl fl' : List Nat} (e : rin fl = rin fl') : ∀ n, stay S fl n = stay S fl' n
  | 0 => rfl
  | n + 1 => by
    unfold stay
    rw [swr_eq e, stay_eq e n]
theorem gone_eq {S : SS} {fl fl' : List Nat} (e : rin fl = rin fl') (n : Nat) : gone S fl n = gone S fl' n := by
  funext r
  unfold gone
  rw [stay_eq e]
theorem tuS_eq {S : SS} {fl fl' : List Nat} (e : rin fl = rin fl') (n : Nat) : tuS S fl n = tuS S fl' n := by
  unfold tuS
  rw [gone_eq e]
theorem tuL_eq {S : SS} {fl fl' : List Nat} (e : rin fl = rin fl') : ∀ n, tuL S fl n = tuL S fl' n
  | 0 => rfl
  | n + 1 => by
    unfold tuL
    rw [e, tuL_eq e n]
theorem fulS_eq {S : SS} {fl fl' : List Nat} (h : RL S fl) (h' : RL S fl') : fulS S fl = fulS S fl' := by
  unfold fulS
  rw [tuS_eq (rin_eq h h'), tuL_eq (rin_eq h h')]
theorem RL_len {S : SS} {fl fl' : List Nat} (h : RL S fl) (h' : RL S fl') : fl.length = fl'.length :=
  Nat.le_antisymm (nodup_len _ _ h.1 (fun x hx => (h'.2.2 x).mpr ((h.2.2 x).mp hx))) (nodup_len _ _ h'.1 (fun x hx => (h.2.2 x).mpr ((h'.2.2 x).mp hx)))
/-- a full collection -/
noncomputable def ful (S : SS) : SS := fulS S (fl0 S)
theorem ful_of {S : SS} {fl : List Nat} (h : RL S fl) : fulS S fl = ful S ∧ fl.length = (fl0 S).length := ⟨fulS_eq h (fl0_ok h), RL_len h (fl0_ok h)⟩
def colB (S : SS) (bu : Nat) : Nat → Bool := colF S (chF S bu)
/-- a collection within a budget: the state behind it, and its answer -/
noncomputable def coll (S : SS) (bu : Nat) : SS := if po (plan S (colB S bu)) = true then cpS S (colB S bu) (plan S (colB S bu)) else ful S
noncomputable def collA (S : SS) (bu : Nat) : Int32 := if po (plan S (colB S bu)) = true then nI (pf (plan S (colB S bu))).length else -2
theorem k_full {h : AH} {S : SS} (c : RC h S) (v : IV S) : TT 48 0 [rv 0 (some 0), un] [] h 0 0 (fun x h' => x = some (iv (nI (fl0 S).length)) ∧ RC h' (ful S) ∧ IV (ful S) ∧ RL S (fl0 S) ∧ CF h h') := by
  refine TT.mono ?_ (c_collectFully c v.bd v.cl v.w2)
  rintro x h' ⟨fl, rl, hx, rc, cf⟩
  obtain ⟨e1, e2⟩ := ful_of rl
  rw [e2] at hx
  have v2 := ful_IV v rl
  rw [e1] at rc v2
  exact ⟨hx, rc, v2, fl0_ok rl, cf⟩
theorem k_coll {h : AH} {S : SS} (c : RC h S) (v : IV S) {bu : Nat} (hbu : bu < 2 ^ 31) : TT 28 0 [rv 0 (some 0), iv (nI bu)] [] h 0 0 (fun x h' => x = some (iv (collA S bu)) ∧ RC h' (coll S bu) ∧ IV (coll S bu) ∧ (po (plan S (colB S bu)) = false → RL S (fl0 S)) ∧ CF h h') := by
  refine TT.mono ?_ (c_collectWithin c v.bd v.cl v.w2 v.free hbu (v.sm bu))
  rintro x h' (⟨hp, hx, rc, cf⟩ | ⟨hp, hx, ⟨fl, rl, rc⟩, cf⟩)
  · have e1 : coll S bu = cpS S (colB S bu) (plan S (colB S bu)) := if_pos hp
    have e2 : collA S bu = nI (pf (plan S (colB S bu))).length := if_pos hp
    rw [e1, e2]
    exact ⟨hx, rc, cp_IV v (fun r _ h => colF_kd h) (v.sm bu) hp, fun z => absurd hp (by rw [show po (plan S (colF S (chF S bu))) = false from z]; exact Bool.false_ne_true), cf⟩
  · have hn : ¬ po (plan S (colB S bu)) = true := by rw [show po (plan S (colB S bu)) = false from hp]; exact Bool.false_ne_true
    have e1 : coll S bu = ful S := if_neg hn
    have e2 : collA S bu = -2 := if_neg hn
    rw [e1, e2]
    have v2 := ful_IV v rl
    rw [(ful_of rl).1] at rc v2
    exact ⟨hx, rc, v2, fun _ => fl0_ok rl, cf⟩
theorem edP_none {S : SS} {w : Nat} (h : (edP S w).1 = none) : (edP S w).2 = S := by
  unfold edP at h ⊢
  cases hf : (cu S).filter (fun r => decide (us S r + w ≤ 16)) with
  | some r => rfl
  | none =>
    rw [hf] at h
    simp only at h ⊢
    cases hl : lfr (isk S 0) 1 12 0 0 with
    | none => rfl
    | some f =>
      rw [hl] at h
      simp only at h ⊢
      split
      · rfl
      · next hc => rw [if_neg hc] at h; cases h
theorem lfr_1 {f : Nat → Bool} : ∀ n r j, lfr f 1 n r 0 = some j → f j = true
  | 0, _, _, h => by cases h
  | n + 1, r, j, h => by
    rw [lfr] at h
    by_cases e : f r = true
    · rw [if_pos e, if_pos rfl] at h
      cases h
      rw [Nat.add_sub_cancel]
      exact e
    · rw [if_neg e, if_neg (by decide)] at h
      exact lfr_1 n (r + 1) j h
theorem edP_some {S : SS} (v : IV S) {w r : Nat} (hw : w ≤ 8) (h : (edP S w).1 = some r) : r < 12 ∧ IV (edP S w).2 ∧ kd (edP S w).2 r = 1 ∧ us (edP S w).2 r + w ≤ 16 ∧ ct (edP S w).2 = ct S ∧ ro (edP S w).2 = ro S := by
  unfold edP at h ⊢
  cases hf : (cu S).filter (fun r => decide (us S r + w ≤ 16)) with
  | some r' =>
    rw [hf] at h
    cases h
    obtain ⟨h1, h2⟩ := Option.filter_eq_some_iff.mp hf
    obtain ⟨a, b⟩ := v.2.2.2.2.2.2 r h1
    exact ⟨a, v, b, of_decide_eq_true h2, rfl, rfl⟩
  | none =>
    rw [hf] at h
    simp only at h ⊢
    cases hl : lfr (isk S 0) 1 12 0 0 with
    | none => rw [hl] at h; cases h
    | some f =>
      rw [hl] at h
      simp only at h ⊢
      by_cases hc : 3 ≤ cn (isk S 1) 12
      · rw [if_pos hc] at h; cases h
      · rw [if_neg hc] at h ⊢
        have hfr : f = r := Option.some.inj h
        subst hfr
        have hf12 : f < 12 := by have := lfr_lt (f := isk S 0) (nd := 1) (by decide) 12 0 0 f hl; omega
        have hk0 : kd S f = 0 := of_decide_eq_true (lfr_1 12 0 f hl)
        obtain ⟨z1, z2, z3⟩ := (v.1 f hf12).1 hk0
        have ek : kd (edS S f) f = 1 := va_up_self _ _ _
        show f < 12 ∧ IV (edS S f) ∧ kd (edS S f) f = 1 ∧ us (edS S f) f + w ≤ 16 ∧ ct (edS S f) = ct S ∧ ro (edS S f) = ro S
        refine ⟨hf12, ⟨fun r' hr' => ?_, v.2.1, v.2.2.1, v.2.2.2.1, v.2.2.2.2.1, v.2.2.2.2.2.1, fun r' hr' => ?_⟩, ek, ?_, rfl, rfl⟩
        · by_cases e : r' = f
          · subst e
            refine ⟨fun z => by omega, fun _ _ => ⟨?_, ?_, fun o ho => ?_, fun x hx => ?_⟩, fun z => by omega, fun z => by omega, by omega⟩
            · show us S r' = sw S (itm S r'); rw [z1, z2]; rfl
            · show us S r' ≤ 16; omega
            · have ho' : o ∈ itm S r' := ho
              rw [z1] at ho'; cases ho'
            · have hx' : lw S r' = some x := hx
              rw [z3] at hx'; cases hx'
          · exact RI_of (v.1 r' hr') (va_up_ne _ _ e) rfl rfl rfl rfl (fun _ z => va_up_ne _ _ (fun q => by rw [q, hk0] at z; omega))
        · have hr2 : some f = some r' := hr'
          cases hr2
          exact ⟨hf12, ek⟩
        · show us S f + w ≤ 16
          omega
/-- where a small object comes to lie, and the state then -/
noncomputable def plS (S : SS) (w : Nat) : Option Nat × SS :=
  if (edP S w).1 ≠ none then edP S w
  else if (edP (coll S 0) w).1 ≠ none then edP (coll S 0) w
  else if (edP (ful (coll S 0)) w).1 ≠ none then edP (ful (coll S 0)) w
  else (fst (oldR (ful (coll S 0)) w) 12 0, ful (coll S 0))
/-- the lists that the collections on the way went by -/
def plR (S : SS) (w : Nat) : Prop := (edP S w).1 = none → ((po (plan S (colB S 0)) = false → RL S (fl0 S)) ∧ ((edP (coll S 0) w).1 = none → RL (coll S 0) (fl0 (coll S 0))))
theorem c_placeForSmall {h : AH} {S : SS} (c : RC h S) (v : IV S) {w : Nat} (hw : w ≤ 8) : TT 13 0 [rv 0 (some 0), iv (nI w), un] [] h 0 0 (fun x h' => x = some (rv 2 (plS S w).1) ∧ RC h' (plS S w).2 ∧ plR S w ∧ CF h h') := by
  have hcu : ∀ {S : SS}, IV S → ∀ r, cu S = some r → r < 12 := fun v r hr => (v.2.2.2.2.2.2 r hr).1
  cases e1 : (edP S w).1 with
  | some r =>
    have ep : plS S w = edP S w := if_pos (by rw [e1]; exact fun z => by cases z)
    rw [ep, e1]
    have hr : plR S w := fun z => by rw [e1] at z; cases z
    refine r_aload_n 1 d_13_0 rfl rfl ?_
    refine r_iload_n 2 d_13_1 rfl rfl ?_
    refine r_callV (k1 := 0) (n1 := 0) (k := 0) (n := 0) 5 14 0 [iv (nI w)] d_13_2 rfl mk_14 lk_0_74 mv_14 rfl rfl rfl rfl rfl _ (c_edenPlace c v.bd w (by omega) (hcu v)) ?_
    intro r_2 h_2 q_2
    obtain ⟨q1, q2, q3⟩ := q_2
    rw [e1] at q1
    subst q1
    show TT 13 5 [rv 0 (some 0), iv (nI w), un] [rv 2 (some r)] h_2 _ _ _
    refine r_astore_n 6 [rv 0 (some 0), iv (nI w), rv 2 (some r)] d_13_5 rfl rfl rfl ?_
    refine r_aload_n 7 d_13_6 rfl rfl ?_
    refine r_ifnonnull 22 10 d_13_7 (by decide) rfl (fun i_7 c_7 => ?_) (fun c_7 => absurd c_7 (by simp))
    refine r_aload_n 23 d_13_22 rfl rfl ?_
    refine r_ifnonnull 37 26 d_13_23 (by decide) rfl (fun i_23 c_23 => ?_) (fun c_23 => absurd c_23 (by simp))
    refine r_aload_n 38 d_13_37 rfl rfl ?_
    refine r_ifnull 45 41 d_13_38 (by decide) rfl (fun c_38 => absurd c_38 (by simp)) (fun i_38 c_38 => ?_)
    refine r_aload_n 42 d_13_41 rfl rfl ?_
    refine r_goto 50 d_13_42 (by decide) ?_
    refine r_areturn d_13_50 rfl ?_
    exact ⟨rfl, q2, hr, q3⟩
  | none =>
    have en1 := edP_none e1
    cases e2 : (edP (coll S 0) w).1 with
    | some r =>
      have ep : plS S w = edP (coll S 0) w := by
        unfold plS
        rw [if_neg (fun z => z e1), if_pos (by rw [e2]; exact fun z => by cases z)]
      rw [ep, e2]
      refine r_aload_n 1 d_13_0 rfl rfl ?_
      refine r_iload_n 2 d_13_1 rfl rfl ?_
      refine r_callV (k1 := 0) (n1 := 0) (k := 0) (n := 0) 5 14 0 [iv (nI w)] d_13_2 rfl mk_14 lk_0_74 mv_14 rfl rfl rfl rfl rfl _ (c_edenPlace c v.bd w (by omega) (hcu v)) ?_
      intro r_2 h_2 q_2
      obtain ⟨q1, q2, q3⟩ := q_2
      rw [e1] at q1
      subst q1
      rw [en1] at q2
      show TT 13 5 [rv 0 (some 0), iv (nI w), un] [rv 2 none] h_2 _ _ _
      refine r_astore_n 6 [rv 0 (some 0), iv (nI w), rv 2 none] d_13_5 rfl rfl rfl ?_
      refine r_aload_n 7 d_13_6 rfl rfl ?_
      refine r_ifnonnull 22 10 d_13_7 (by decide) rfl (fun i_7 c_7 => absurd c_7 (by simp)) (fun c_7 => ?_)
      refine r_aload_n 11 d_13_10 rfl rfl ?_
      refine r_iconst 12 (nI 0) d_13_11 rfl (by decide) ?_
      refine r_callV (k1 := 0) (n1 := 0) (k := 0) (n := 0) 15 28 0 [iv (nI 0)] d_13_12 rfl mk_28 lk_0_77 mv_28 rfl rfl rfl rfl rfl _ (k_coll q2 v (bu := 0) (by decide)) ?_
      intro r_12 h_12 q_12
      obtain ⟨p1, p2, p3, p4, p5⟩ := q_12
      subst p1
      show TT 13 15 [rv 0 (some 0), iv (nI w), rv 2 none] [iv (collA S 0)] h_12 _ _ _
      refine r_pop 16 d_13_15 rfl rfl ?_
      refine r_aload_n 17 d_13_16 rfl rfl ?_
      refine r_iload_n 18 d_13_17 rfl rfl ?_
      refine r_callV (k1 := 0) (n1 := 0) (k := 0) (n := 0) 21 14 0 [iv (nI w)] d_13_18 rfl mk_14 lk_0_74 mv_14 rfl rfl rfl rfl rfl _ (c_edenPlace p2 p3.bd w (by omega) (hcu p3)) ?_
      intro r_18 h_18 q_18
      obtain ⟨u1, u2, u3⟩ := q_18
      rw [e2] at u1
      subst u1
      show TT 13 21 [rv 0 (some 0), iv (nI w), rv 2 none] [rv 2 (some r)] h_18 _ _ _
      refine r_astore_n 22 [rv 0 (some 0), iv (nI w), rv 2 (some r)] d_13_21 rfl rfl rfl ?_
      refine r_aload_n 23 d_13_22 rfl rfl ?_
      refine r_ifnonnull 37 26 d_13_23 (by decide) rfl (fun i_23 c_23 => ?_) (fun c_23 => absurd c_23 (by simp))
      refine r_aload_n 38 d_13_37 rfl rfl ?_
      refine r_ifnull 45 41 d_13_38 (by decide) rfl (fun c_38 => absurd c_38 (by simp)) (fun i_38 c_38 => ?_)
      refine r_aload_n 42 d_13_41 rfl rfl ?_
      refine r_goto 50 d_13_42 (by decide) ?_
      refine r_areturn d_13_50 rfl ?_
      exact ⟨rfl, u2, fun _ => ⟨p4, fun z => by rw [e2] at z; cases z⟩, (q3.tr p5).tr u3⟩
    | none =>
      have en2 := edP_none e2
      cases e3 : (edP (ful (coll S 0)) w).1 with
      | some r =>
        have ep : plS S w = edP (ful (coll S 0)) w := by
          unfold plS
          rw [if_neg (fun z => z e1), if_neg (fun z => z e2), if_pos (by rw [e3]; exact fun z => by cases z)]
        rw [ep, e3]
        refine r_aload_n 1 d_13_0 rfl rfl ?_
        refine r_iload_n 2 d_13_1 rfl rfl ?_
        refine r_callV (k1 := 0) (n1 := 0) (k := 0) (n := 0) 5 14 0 [iv (nI w)] d_13_2 rfl mk_14 lk_0_74 mv_14 rfl rfl rfl rfl rfl _ (c_edenPlace c v.bd w (by omega) (hcu v)) ?_
        intro r_2 h_2 q_2
        obtain ⟨q1, q2, q3⟩ := q_2
        rw [e1] at q1
        subst q1
        rw [en1] at q2
        show TT 13 5 [rv 0 (some 0), iv (nI w), un] [rv 2 none] h_2 _ _ _
        refine r_astore_n 6 [rv 0 (some 0), iv (nI w), rv 2 none] d_13_5 rfl rfl rfl ?_
        refine r_aload_n 7 d_13_6 rfl rfl ?_
        refine r_ifnonnull 22 10 d_13_7 (by decide) rfl (fun i_7 c_7 => absurd c_7 (by simp)) (fun c_7 => ?_)
        refine r_aload_n 11 d_13_10 rfl rfl ?_
        refine r_iconst 12 (nI 0) d_13_11 rfl (by decide) ?_
        refine r_callV (k1 := 0) (n1 := 0) (k := 0) (n := 0) 15 28 0 [iv (nI 0)] d_13_12 rfl mk_28 lk_0_77 mv_28 rfl rfl rfl rfl rfl _ (k_coll q2 v (bu := 0) (by decide)) ?_
        intro r_12 h_12 q_12
        obtain ⟨p1, p2, p3, p4, p5⟩ := q_12
        subst p1
        show TT 13 15 [rv 0 (some 0), iv (nI w), rv 2 none] [iv (collA S 0)] h_12 _ _ _
        refine r_pop 16 d_13_15 rfl rfl ?_
        refine r_aload_n 17 d_13_16 rfl rfl ?_
        refine r_iload_n 18 d_13_17 rfl rfl ?_
        refine r_callV (k1 := 0) (n1 := 0) (k := 0) (n := 0) 21 14 0 [iv (nI w)] d_13_18 rfl mk_14 lk_0_74 mv_14 rfl rfl rfl rfl rfl _ (c_edenPlace p2 p3.bd w (by omega) (hcu p3)) ?_
        intro r_18 h_18 q_18
        obtain ⟨u1, u2, u3⟩ := q_18
        rw [e2] at u1
        subst u1
        rw [en2] at u2
        show TT 13 21 [rv 0 (some 0), iv (nI w), rv 2 none] [rv 2 none] h_18 _ _ _
        refine r_astore_n 22 [rv 0 (some 0), iv (nI w), rv 2 none] d_13_21 rfl rfl rfl ?_
        refine r_aload_n 23 d_13_22 rfl rfl ?_
        refine r_ifnonnull 37 26 d_13_23 (by decide) rfl (fun i_23 c_23 => absurd c_23 (by simp)) (fun c_23 => ?_)
        refine r_aload_n 27 d_13_26 rfl rfl ?_
        refine r_callV (k1 := 0) (n1 := 0) (k := 0) (n := 0) 30 48 0 [] d_13_27 rfl mk_48 lk_0_60 mv_48 rfl rfl rfl rfl rfl _ (k_full u2 p3) ?_
        intro r_27 h_27 q_27
        obtain ⟨w1, w2, w3, w4, w5⟩ := q_27
        subst w1
        show TT 13 30 [rv 0 (some 0), iv (nI w), rv 2 none] [iv (nI (fl0 (coll S 0)).length)] h_27 _ _ _
        refine r_pop 31 d_13_30 rfl rfl ?_
        refine r_aload_n 32 d_13_31 rfl rfl ?_
        refine r_iload_n 33 d_13_32 rfl rfl ?_
        refine r_callV (k1 := 0) (n1 := 0) (k := 0) (n := 0) 36 14 0 [iv (nI w)] d_13_33 rfl mk_14 lk_0_74 mv_14 rfl rfl rfl rfl rfl _ (c_edenPlace w2 w3.bd w (by omega) (hcu w3)) ?_
        intro r_33 h_33 q_33
        obtain ⟨x1, x2, x3⟩ := q_33
        rw [e3] at x1
        subst x1
        show TT 13 36 [rv 0 (some 0), iv (nI w), rv 2 none] [rv 2 (some r)] h_33 _ _ _
        refine r_astore_n 37 [rv 0 (some 0), iv (nI w), rv 2 (some r)] d_13_36 rfl rfl rfl ?_
        refine r_aload_n 38 d_13_37 rfl rfl ?_
        refine r_ifnull 45 41 d_13_38 (by decide) rfl (fun c_38 => absurd c_38 (by simp)) (fun i_38 c_38 => ?_)
        refine r_aload_n 42 d_13_41 rfl rfl ?_
        refine r_goto 50 d_13_42 (by decide) ?_
        refine r_areturn d_13_50 rfl ?_
        exact ⟨rfl, x2, fun _ => ⟨p4, fun _ => w4⟩, (((q3.tr p5).tr u3).tr w5).tr x3⟩
      | none =>
        have en3 := edP_none e3
        have ep : plS S w = (fst (oldR (ful (coll S 0)) w) 12 0, ful (coll S 0)) := by
          unfold plS
          rw [if_neg (fun z => z e1), if_neg (fun z => z e2), if_neg (fun z => z e3)]
        rw [ep]
        refine r_aload_n 1 d_13_0 rfl rfl ?_
        refine r_iload_n 2 d_13_1 rfl rfl ?_
        refine r_callV (k1 := 0) (n1 := 0) (k := 0) (n := 0) 5 14 0 [iv (nI w)] d_13_2 rfl mk_14 lk_0_74 mv_14 rfl rfl rfl rfl rfl _ (c_edenPlace c v.bd w (by omega) (hcu v)) ?_
        intro r_2 h_2 q_2
        obtain ⟨q1, q2, q3⟩ := q_2
        rw [e1] at q1
        subst q1
        rw [en1] at q2
        show TT 13 5 [rv 0 (some 0), iv (nI w), un] [rv 2 none] h_2 _ _ _
        refine r_astore_n 6 [rv 0 (some 0), iv (nI w), rv 2 none] d_13_5 rfl rfl rfl ?_
        refine r_aload_n 7 d_13_6 rfl rfl ?_
        refine r_ifnonnull 22 10 d_13_7 (by decide) rfl (fun i_7 c_7 => absurd c_7 (by simp)) (fun c_7 => ?_)
        refine r_aload_n 11 d_13_10 rfl rfl ?_
        refine r_iconst 12 (nI 0) d_13_11 rfl (by decide) ?_
        refine r_callV (k1 := 0) (n1 := 0) (k := 0) (n := 0) 15 28 0 [iv (nI 0)] d_13_12 rfl mk_28 lk_0_77 mv_28 rfl rfl rfl rfl rfl _ (k_coll q2 v (bu := 0) (by decide)) ?_
        intro r_12 h_12 q_12
        obtain ⟨p1, p2, p3, p4, p5⟩ := q_12
        subst p1
        show TT 13 15 [rv 0 (some 0), iv (nI w), rv 2 none] [iv (collA S 0)] h_12 _ _ _
        refine r_pop 16 d_13_15 rfl rfl ?_
        refine r_aload_n 17 d_13_16 rfl rfl ?_
        refine r_iload_n 18 d_13_17 rfl rfl ?_
        refine r_callV (k1 := 0) (n1 := 0) (k := 0) (n := 0) 21 14 0 [iv (nI w)] d_13_18 rfl mk_14 lk_0_74 mv_14 rfl rfl rfl rfl rfl _ (c_edenPlace p2 p3.bd w (by omega) (hcu p3)) ?_
        intro r_18 h_18 q_18
        obtain ⟨u1, u2, u3⟩ := q_18
        rw [e2] at u1
        subst u1
        rw [en2] at u2
        show TT 13 21 [rv 0 (some 0), iv (nI w), rv 2 none] [rv 2 none] h_18 _ _ _
        refine r_astore_n 22 [rv 0 (some 0), iv (nI w), rv 2 none] d_13_21 rfl rfl rfl ?_
        refine r_aload_n 23 d_13_22 rfl rfl ?_
        refine r_ifnonnull 37 26 d_13_23 (by decide) rfl (fun i_23 c_23 => absurd c_23 (by simp)) (fun c_23 => ?_)
        refine r_aload_n 27 d_13_26 rfl rfl ?_
        refine r_callV (k1 := 0) (n1 := 0) (k := 0) (n := 0) 30 48 0 [] d_13_27 rfl mk_48 lk_0_60 mv_48 rfl rfl rfl rfl rfl _ (k_full u2 p3) ?_
        intro r_27 h_27 q_27
        obtain ⟨w1, w2, w3, w4, w5⟩ := q_27
        subst w1
        show TT 13 30 [rv 0 (some 0), iv (nI w), rv 2 none] [iv (nI (fl0 (coll S 0)).length)] h_27 _ _ _
        refine r_pop 31 d_13_30 rfl rfl ?_
        refine r_aload_n 32 d_13_31 rfl rfl ?_
        refine r_iload_n 33 d_13_32 rfl rfl ?_
        refine r_callV (k1 := 0) (n1 := 0) (k := 0) (n := 0) 36 14 0 [iv (nI w)] d_13_33 rfl mk_14 lk_0_74 mv_14 rfl rfl rfl rfl rfl _ (c_edenPlace w2 w3.bd w (by omega) (hcu w3)) ?_
        intro r_33 h_33 q_33
        obtain ⟨x1, x2, x3⟩ := q_33
        rw [e3] at x1
        subst x1
        rw [en3] at x2
        show TT 13 36 [rv 0 (some 0), iv (nI w), rv 2 none] [rv 2 none] h_33 _ _ _
        refine r_astore_n 37 [rv 0 (some 0), iv (nI w), rv 2 none] d_13_36 rfl rfl rfl ?_
        refine r_aload_n 38 d_13_37 rfl rfl ?_
        refine r_ifnull 45 41 d_13_38 (by decide) rfl (fun c_38 => ?_) (fun i_38 c_38 => absurd c_38 (by simp))
        refine r_aload_n 46 d_13_45 rfl rfl ?_
        refine r_iload_n 47 d_13_46 rfl rfl ?_
        refine r_callV (k1 := 0) (n1 := 0) (k := 0) (n := 0) 50 16 0 [iv (nI w)] d_13_47 rfl mk_16 lk_0_80 mv_16 rfl rfl rfl rfl rfl _ (c_leastOldWithRoom x2 w3.bd w (by omega)) ?_
        intro r_47 h_47 q_47
        obtain ⟨q1, q2⟩ := q_47
        subst q2
        rw [q1]
        show TT 13 50 [rv 0 (some 0), iv (nI w), rv 2 none] [rv 2 (fst (oldR (ful (coll S 0)) w) 12 0)] h_33 _ _ _
        refine r_areturn d_13_50 rfl ?_
        exact ⟨rfl, x2, fun _ => ⟨p4, fun _ => w4⟩, (((q3.tr p5).tr u3).tr w5).tr x3⟩
