/-! contracts of the class: marking -/
def rin (fl : List Nat) (o : Nat) : Bool := decide (o ∈ fl)
def swr (S : SS) (fl : List Nat) (r : Nat) : Nat := sw S ((itm S r).filter (rin fl))
theorem sw_ftake {S : SS} {l fl : List Nat} {i o : Nat} (h : l[i]? = some o) : sw S ((l.take (i + 1)).filter (rin fl)) = sw S ((l.take i).filter (rin fl)) + (if rin fl o = true then wd S o else 0) := by
  rw [List.take_succ, h, List.filter_append, sw_app]
  simp only [Option.toList, List.filter_cons, List.filter_nil]
  split <;> simp [sw]
theorem c_reachedWords {h : AH} {S : SS} {fl : List Nat} (c : RC h S) (f : RF h S fl) {r : Nat} (hr : r < 12) (hl8 : (itm S r).length ≤ 8) : TT 7 0 [rv 2 (some r), un, un] [] h 0 0 (fun x h' => h' = h ∧ x = some (iv (nI (swr S fl r)))) := by
  have loop : ∀ n i, i + n = (itm S r).length → TT 7 4 [rv 2 (some r), iv (nI (sw S (((itm S r).take i).filter (rin fl)))), iv (nI i)] [] h 0 0 (fun x h' => h' = h ∧ x = some (iv (nI (swr S fl r)))) := by
    intro n
    induction n with
    | zero =>
      intro i hi
      obtain rfl : i = (itm S r).length := by omega
      refine r_iload_n 5 d_7_4 rfl rfl ?_
      refine r_aload_n 6 d_7_5 rfl rfl ?_
      refine r_getI 9 2 2 (nI (itm S r).length) d_7_6 rfl fk_2_37 rfl (c.ic hr) ?_
      refine r_icmp_ge 42 12 d_7_9 (by decide) rfl (fun c_9 => ?_) (fun c_9 => absurd (nI_le (Nat.le_refl _) (by omega)) c_9)
      refine r_iload_n 43 d_7_42 rfl rfl ?_
      refine r_ireturn d_7_43 rfl ?_
      exact ⟨rfl, by rw [List.take_length]; rfl⟩
    | succ n ih =>
      intro i hi
      have hi8 : i < 8 := by omega
      obtain ⟨o, ho⟩ := at_lt (l := itm S r) (i := i) (by omega)
      have hoa := mem_it hr ho
      have holt := c.mlt hoa
      refine r_iload_n 5 d_7_4 rfl rfl ?_
      refine r_aload_n 6 d_7_5 rfl rfl ?_
      refine r_getI 9 2 2 (nI (itm S r).length) d_7_6 rfl fk_2_37 rfl (c.ic hr) ?_
      refine r_icmp_ge 42 12 d_7_9 (by decide) rfl (fun c_9 => absurd c_9 (nI_ge (by omega) (by omega))) (fun c_9 => ?_)
      refine r_aload_n 13 d_7_12 rfl rfl ?_
      refine r_getR 16 2 1 4 (some r) d_7_13 rfl fk_2_17 rfl (by decide) (ST.itm c.st hr) ?_
      refine r_iload_n 17 d_7_16 rfl rfl ?_
      refine r_aald 18 4 1 i (some o) d_7_17 rfl (Or.inl ⟨rfl, rfl⟩) rfl (ST.lit c.st hr hi8) (c.it hr ho) ?_
      refine r_getI 21 1 5 (bI (rin fl o)) d_7_18 rfl fk_2_43 rfl (f o hoa) ?_
      refine r_if_eq 36 24 d_7_21 (by decide) rfl (fun c_21 => ?_) (fun c_21 => ?_)
      · skip
        refine r_iinc 39 (nI (i + 1)) [rv 2 (some r), iv (nI (sw S (((itm S r).take i).filter (rin fl)))), iv (nI (i + 1))] d_7_36 rfl rfl (nI_1 i) rfl rfl ?_
        refine r_goto 4 d_7_39 (by decide) ?_
        have z := ih (i + 1) (by omega)
        rw [sw_ftake ho] at z
        first | (rw [bI_0 c_21, if_neg Bool.false_ne_true, Nat.add_zero] at z; exact z) | (rw [bI_1 c_21, if_pos rfl] at z; exact z)
      · skip
        refine r_iload_n 25 d_7_24 rfl rfl ?_
        refine r_aload_n 26 d_7_25 rfl rfl ?_
        refine r_getR 29 2 1 4 (some r) d_7_26 rfl fk_2_17 rfl (by decide) (ST.itm c.st hr) ?_
        refine r_iload_n 30 d_7_29 rfl rfl ?_
        refine r_aald 31 4 1 i (some o) d_7_30 rfl (Or.inl ⟨rfl, rfl⟩) rfl (ST.lit c.st hr hi8) (c.it hr ho) ?_
        refine r_getI 34 1 1 (nI (wd S o)) d_7_31 rfl fk_2_40 rfl (c.wd holt) ?_
        refine r_iadd 35 (nI (sw S (((itm S r).take i).filter (rin fl)) + wd S o)) d_7_34 rfl (nI_add _ _) ?_
        refine r_istore_n 36 [rv 2 (some r), iv (nI (sw S (((itm S r).take i).filter (rin fl)) + wd S o)), iv (nI i)] d_7_35 rfl rfl rfl ?_
        refine r_iinc 39 (nI (i + 1)) [rv 2 (some r), iv (nI (sw S (((itm S r).take i).filter (rin fl)) + wd S o)), iv (nI (i + 1))] d_7_36 rfl rfl (nI_1 i) rfl rfl ?_
        refine r_goto 4 d_7_39 (by decide) ?_
        have z := ih (i + 1) (by omega)
        rw [sw_ftake ho] at z
        first | (rw [bI_0 c_21, if_neg Bool.false_ne_true, Nat.add_zero] at z; exact z) | (rw [bI_1 c_21, if_pos rfl] at z; exact z)
  refine r_iconst 1 (nI 0) d_7_0 rfl (by decide) ?_
  refine r_istore_n 2 [rv 2 (some r), iv (nI 0), un] d_7_1 rfl rfl rfl ?_
  refine r_iconst 3 (nI 0) d_7_2 rfl (by decide) ?_
  refine r_istore_n 4 [rv 2 (some r), iv (nI 0), iv (nI 0)] d_7_3 rfl rfl rfl ?_
  exact loop _ 0 (Nat.zero_add _)
def mkL (S : SS) (fl : List Nat) (n : Nat) : SS := mkS (kd S) (us S) (fun r => if r < n ∧ 1 ≤ kd S r ∧ kd S r ≤ 3 then some (swr S fl r) else lw S r) (itm S) (ro S) (wd S) (fd S) (hm S) (so S) (cu S) (ct S)
theorem rc_lw {h : AH} {S S' : SS} (c : RC h S) (e : S' = mkS (kd S) (us S) (lw S') (itm S) (ro S) (wd S) (fd S) (hm S) (so S) (cu S) (ct S)) (hl : ∀ r, r < 12 → hI h 2 r 5 = ol (lw S' r)) : RC h S' := by
  rw [e]
  exact ⟨c.1, fun r hr => ⟨c.kd hr, c.us hr, hl r hr, (c.2.1 r hr).2.2.2⟩, c.2.2⟩
theorem rc_25 {h : AH} {S : SS} (c : RC h S) (r : Nat) (x : Option Nat) : RC (sI h 2 r 5 (ol x)) (mkS (kd S) (us S) (va_up (lw S) r x) (itm S) (ro S) (wd S) (fd S) (hm S) (so S) (cu S) (ct S)) := by
  refine ⟨ST_sI c.st rfl, fun r' hr => ⟨c.kd hr, c.us hr, ?_, (c.2.1 r' hr).2.2.2⟩, c.2.2⟩
  show (if 2 = 2 ∧ 5 = 5 ∧ r' = r then ol x else hI h 2 r' 5) = ol (va_up (lw S) r x r')
  unfold va_up
  by_cases e : r' = r
  · simp [e]
  · simp [e, c.lw hr]
theorem mkL_s {S : SS} {fl : List Nat} {r : Nat} (hk : 1 ≤ kd S r ∧ kd S r ≤ 3) : mkL S fl (r + 1) = mkS (kd S) (us S) (va_up (lw (mkL S fl r)) r (some (swr S fl r))) (itm S) (ro S) (wd S) (fd S) (hm S) (so S) (cu S) (ct S) := by
  unfold mkL
  congr 1
  funext r'
  show (if r' < r + 1 ∧ _ then _ else _) = (if r' = r then _ else if r' < r ∧ _ then _ else _)
  by_cases e : r' = r
  · subst e
    rw [if_pos ⟨by omega, hk⟩, if_pos rfl]
  · rw [if_neg e]
    by_cases e2 : r' < r ∧ 1 ≤ kd S r' ∧ kd S r' ≤ 3
    · rw [if_pos e2, if_pos ⟨by omega, e2.2⟩]
    · rw [if_neg e2, if_neg (fun z => e2 ⟨by omega, z.2⟩)]
theorem mkL_n {S : SS} {fl : List Nat} {r : Nat} (hk : ¬ (1 ≤ kd S r ∧ kd S r ≤ 3)) : mkL S fl (r + 1) = mkL S fl r := by
  unfold mkL
  congr 1
  funext r'
  by_cases e : r' = r
  · subst e
    rw [if_neg (fun z => hk z.2), if_neg (fun z => hk z.2)]
  · by_cases e2 : r' < r ∧ 1 ≤ kd S r' ∧ kd S r' ≤ 3
    · rw [if_pos e2, if_pos ⟨by omega, e2.2⟩]
    · rw [if_neg e2, if_neg (fun z => e2 ⟨by omega, z.2⟩)]
theorem c_mark {h : AH} {S : SS} (c : RC h S) (b : BD S) (cl : CL S) : TT 43 0 [rv 0 (some 0), un, un, un] [] h 0 0 (fun x h' => ∃ fl, x = some (iv (nI (sw S fl))) ∧ RC h' (mkL S fl 12) ∧ fl.Nodup ∧ (∀ o ∈ fl, o ∈ all S) ∧ (∀ o, o ∈ fl ↔ Rch S o) ∧ CF h h') := by
  have loop : ∀ (fl : List Nat) (ok : fl.Nodup ∧ (∀ o ∈ fl, o ∈ all S) ∧ (∀ o, o ∈ fl ↔ Rch S o)) (n r : Nat) (h1 : AH) (v : AV), r + n = 12 → RC h1 (mkL S fl r) → RF h1 S fl → CF h h1 → TT 43 7 [rv 0 (some 0), iv (nI (sw S fl)), iv (nI r), v] [] h1 0 0 (fun x h' => ∃ fl, x = some (iv (nI (sw S fl))) ∧ RC h' (mkL S fl 12) ∧ fl.Nodup ∧ (∀ o ∈ fl, o ∈ all S) ∧ (∀ o, o ∈ fl ↔ Rch S o) ∧ CF h h') := by
    intro fl ok n
    induction n with
    | zero =>
      intro r h1 v hr c1 f cf
      obtain rfl : r = 12 := by omega
      refine TT.forget 3 (ls' := [rv 0 (some 0), iv (nI (sw S fl)), iv (nI 12), un]) rfl ?_
      refine r_iload_n 8 d_43_7 rfl rfl ?_
      refine r_bipush 10 (nI 12) d_43_8 rfl (by decide) ?_
      refine r_icmp_ge 48 13 d_43_10 (by decide) rfl (fun c_10 => ?_) (fun c_10 => absurd (nI_le (Nat.le_refl _) (by decide)) c_10)
      refine r_iload_n 49 d_43_48 rfl rfl ?_
      refine r_ireturn d_43_49 rfl ?_
      exact ⟨fl, rfl, c1, ok.1, ok.2.1, ok.2.2, cf⟩
    | succ n ih =>
      intro r h1 v hr c1 f cf
      have hr12 : r < 12 := by omega
      have hk := b.kd hr12
      refine TT.forget 3 (ls' := [rv 0 (some 0), iv (nI (sw S fl)), iv (nI r), un]) rfl ?_
      refine r_iload_n 8 d_43_7 rfl rfl ?_
      refine r_bipush 10 (nI 12) d_43_8 rfl (by decide) ?_
      refine r_icmp_ge 48 13 d_43_10 (by decide) rfl (fun c_10 => absurd c_10 (nI_ge hr12 (by decide))) (fun c_10 => ?_)
      refine r_aload_n 14 d_43_13 rfl rfl ?_
      refine r_getR 17 0 0 5 (some 0) d_43_14 rfl fk_0_11 rfl (by decide) (ST.reg c1.st) ?_
      refine r_iload_n 18 d_43_17 rfl rfl ?_
      refine r_aald 19 5 2 r (some r) d_43_18 rfl (Or.inr ⟨rfl, rfl⟩) rfl (ST.l50 c1.st hr12) (ST.rat c1.st hr12) ?_
      refine r_astore_n 20 [rv 0 (some 0), iv (nI (sw S fl)), iv (nI r), rv 2 (some r)] d_43_19 rfl rfl rfl ?_
      refine r_aload_n 21 d_43_20 rfl rfl ?_
      refine r_getI 24 2 3 (nI (kd S r)) d_43_21 rfl fk_0_93 rfl (c1.kd hr12) ?_
      refine r_if_eq 42 27 d_43_24 (by decide) rfl (fun c_24 => ?_) (fun c_24 => ?_)
      · skip
        refine r_iinc 45 (nI (r + 1)) [rv 0 (some 0), iv (nI (sw S fl)), iv (nI (r + 1)), rv 2 (some r)] d_43_42 rfl rfl (nI_1 r) rfl rfl ?_
        refine r_goto 7 d_43_45 (by decide) ?_
        first
        | (have e : ¬ (1 ≤ kd S r ∧ kd S r ≤ 3) := (by have e0 := (nI_eq (a := kd S r) (b := 0) (by omega) (by decide)).mp c_24; omega); refine ih (r + 1) h1 _ (by omega) (by rw [mkL_n e]; exact c1) f cf)
        | (have e : ¬ (1 ≤ kd S r ∧ kd S r ≤ 3) := (by have e0 := of_decide_eq_true (bI_1 c_31); omega); refine ih (r + 1) h1 _ (by omega) (by rw [mkL_n e]; exact c1) f cf)
        | (have e : 1 ≤ kd S r ∧ kd S r ≤ 3 := (by have e0 := of_decide_eq_false (bI_0 c_31); have e1 : kd S r ≠ 0 := (fun z => c_24 (by rw [z]; rfl)); omega); refine ih (r + 1) _ _ (by omega) (by rw [mkL_s e]; exact rc_25 c1 r (some (swr S fl r))) f (CF_sI cf rfl))
      · skip
        refine r_aload_n 28 d_43_27 rfl rfl ?_
        refine r_callV (k1 := 0) (n1 := 0) (k := 0) (n := 0) 31 4 2 [] d_43_28 rfl mk_4 lk_0_219 mv_4 rfl rfl rfl rfl rfl _ (c_isPartOfLarge h1 r (kd S r) (c1.kd hr12) (by omega)) ?_
        intro r_28 h_28 q_28
        obtain ⟨q1, q2⟩ := q_28
        subst q2
        rw [q1]
        show TT 43 31 [rv 0 (some 0), iv (nI (sw S fl)), iv (nI r), rv 2 (some r)] [iv (bI (decide (kd S r = 4 ∨ kd S r = 5)))] h1 _ _ _
        refine r_if_ne 42 34 d_43_31 (by decide) rfl (fun c_31 => ?_) (fun c_31 => ?_)
        · skip
          refine r_iinc 45 (nI (r + 1)) [rv 0 (some 0), iv (nI (sw S fl)), iv (nI (r + 1)), rv 2 (some r)] d_43_42 rfl rfl (nI_1 r) rfl rfl ?_
          refine r_goto 7 d_43_45 (by decide) ?_
          first
          | (have e : ¬ (1 ≤ kd S r ∧ kd S r ≤ 3) := (by have e0 := (nI_eq (a := kd S r) (b := 0) (by omega) (by decide)).mp c_24; omega); refine ih (r + 1) h1 _ (by omega) (by rw [mkL_n e]; exact c1) f cf)
          | (have e : ¬ (1 ≤ kd S r ∧ kd S r ≤ 3) := (by have e0 := of_decide_eq_true (bI_1 c_31); omega); refine ih (r + 1) h1 _ (by omega) (by rw [mkL_n e]; exact c1) f cf)
          | (have e : 1 ≤ kd S r ∧ kd S r ≤ 3 := (by have e0 := of_decide_eq_false (bI_0 c_31); have e1 : kd S r ≠ 0 := (fun z => c_24 (by rw [z]; rfl)); omega); refine ih (r + 1) _ _ (by omega) (by rw [mkL_s e]; exact rc_25 c1 r (some (swr S fl r))) f (CF_sI cf rfl))
        · skip
          refine r_aload_n 35 d_43_34 rfl rfl ?_
          refine r_aload_n 36 d_43_35 rfl rfl ?_
          refine r_callV (k1 := 0) (n1 := 0) (k := 0) (n := 0) 39 7 2 [] d_43_36 rfl mk_7 lk_0_222 mv_7 rfl rfl rfl rfl rfl _ (c_reachedWords (S := mkL S fl r) c1 f hr12 (b.it hr12)) ?_
          intro r_36 h_36 q_36
          obtain ⟨q1, q2⟩ := q_36
          subst q2
          rw [q1]
          show TT 43 39 [rv 0 (some 0), iv (nI (sw S fl)), iv (nI r), rv 2 (some r)] [iv (nI (swr S fl r)), rv 2 (some r)] h1 _ _ _
          refine r_putI 42 2 5 d_43_39 rfl fk_0_49 (Or.inl rfl) rfl rfl rfl ?_
          refine r_iinc 45 (nI (r + 1)) [rv 0 (some 0), iv (nI (sw S fl)), iv (nI (r + 1)), rv 2 (some r)] d_43_42 rfl rfl (nI_1 r) rfl rfl ?_
          refine r_goto 7 d_43_45 (by decide) ?_
          first
          | (have e : ¬ (1 ≤ kd S r ∧ kd S r ≤ 3) := (by have e0 := (nI_eq (a := kd S r) (b := 0) (by omega) (by decide)).mp c_24; omega); refine ih (r + 1) h1 _ (by omega) (by rw [mkL_n e]; exact c1) f cf)
          | (have e : ¬ (1 ≤ kd S r ∧ kd S r ≤ 3) := (by have e0 := of_decide_eq_true (bI_1 c_31); omega); refine ih (r + 1) h1 _ (by omega) (by rw [mkL_n e]; exact c1) f cf)
          | (have e : 1 ≤ kd S r ∧ kd S r ≤ 3 := (by have e0 := of_decide_eq_false (bI_0 c_31); have e1 : kd S r ≠ 0 := (fun z => c_24 (by rw [z]; rfl)); omega); refine ih (r + 1) _ _ (by omega) (by rw [mkL_s e]; exact rc_25 c1 r (some (swr S fl r))) f (CF_sI cf rfl))
  refine r_aload_n 1 d_43_0 rfl rfl ?_
  refine r_callV (k1 := 0) (n1 := 0) (k := 0) (n := 0) 4 44 0 [] d_43_1 rfl mk_44 lk_0_216 mv_44 rfl rfl rfl rfl rfl _ (c_findReached c b cl) ?_
  intro r_1 h_1 q_1
  obtain ⟨fl, q1, q2, q3, q4, q5⟩ := q_1
  subst q1
  show TT 43 4 [rv 0 (some 0), un, un, un] [iv (nI (sw S fl))] h_1 _ _ _
  refine r_istore_n 5 [rv 0 (some 0), iv (nI (sw S fl)), un, un] d_43_4 rfl rfl rfl ?_
  refine r_iconst 6 (nI 0) d_43_5 rfl (by decide) ?_
  refine r_istore_n 7 [rv 0 (some 0), iv (nI (sw S fl)), iv (nI 0), un] d_43_6 rfl rfl rfl ?_
  refine loop fl ⟨q3.2.2.1, q3.2.2.2, q4⟩ 12 0 h_1 un rfl ?_ q3.2.1 q5
  have e : mkL S fl 0 = S := by
    unfold mkL
    simp only [Nat.not_lt_zero, false_and, if_false]
    rfl
  rw [e]; exact q2
