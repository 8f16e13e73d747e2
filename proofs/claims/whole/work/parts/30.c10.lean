/-! contracts of the class: laying together -/
def fill (r : Nat) : SS → List Nat → SS × List Nat
  | S, [] => (S, [])
  | S, o :: gl => if us S r + wd S o ≤ 16 then fill r (apS S r o) gl else (S, o :: gl)
def fin1 (S : SS) (r : Nat) : SS := if (itm S r).length = 0 then S else olS S r
def lay : Nat → Nat → SS → List Nat → SS × List Nat
  | 0, _, S, gl => (S, gl)
  | n + 1, r, S, gl => if big (kd S r) = true then lay n (r + 1) S gl else lay n (r + 1) (fin1 (fill r S gl).1 r) (fill r S gl).2
/-- regions from r on that aren't parts of large objects have room for what they say -/
def LPk (S : SS) (r : Nat) : Prop := (∀ r', r ≤ r' → r' < 12 → kd S r' ≤ 5 ∧ (big (kd S r') = false → 2 * (itm S r').length ≤ us S r' ∧ us S r' ≤ 16))
theorem fd_ap {h : AH} {gl : List Nat} (f : FD h gl) {r o c : Nat} (hr : r < 12) : FD (apH h r o c) gl := by
  refine ⟨f.1, fun i x hi => ?_⟩
  exact (hR_ne (h := sI (sR h 1 o 3 (some r)) 1 o 4 (hI h 2 r 4)) (s := 4) (i := r) (k := c) (v := some o) (by omega) i).trans (f.2 i x hi)
theorem cf_ap {h h1 : AH} (a : CF h h1) {r o c : Nat} : CF h (apH h1 r o c) := CF_sI (CF_sI (CF_sR (CF_sI (CF_sR a rfl) rfl) rfl) rfl) rfl
theorem drop_s {l : List Nat} {i o : Nat} (h : l[i]? = some o) : l.drop i = o :: l.drop (i + 1) := by
  obtain ⟨h1, h2⟩ := List.getElem?_eq_some_iff.mp h
  rw [List.drop_eq_getElem_cons h1, h2]
theorem LPk_ap {S : SS} {r o : Nat} (p : LPk S r) (hr : r < 12) (hb : big (kd S r) = false) (hw : 2 ≤ wd S o) (hu : us S r + wd S o ≤ 16) : LPk (apS S r o) r := by
  intro r' h1 h2
  refine ⟨(p r' h1 h2).1, fun hb' => ?_⟩
  show 2 * (va_up (itm S) r (itm S r ++ [o]) r').length ≤ va_up (us S) r (us S r + wd S o) r' ∧ va_up (us S) r (us S r + wd S o) r' ≤ 16
  by_cases e : r' = r
  · subst e
    rw [va_up_self, va_up_self, List.length_append]
    have := (p r' h1 h2).2 hb
    simp only [List.length_cons, List.length_nil]
    omega
  · rw [va_up_ne _ _ e, va_up_ne _ _ e]
    exact (p r' h1 h2).2 hb'
theorem LPk_fin {S : SS} {r : Nat} (p : LPk S r) : LPk (fin1 S r) (r + 1) := by
  intro r' h1 h2
  unfold fin1
  split
  · exact p r' (by omega) h2
  · have e : kd (olS S r) r' = kd S r' := va_up_ne _ _ (by omega)
    rw [e]
    exact p r' (by omega) h2
theorem c_layTogether {h : AH} {S : SS} {gl : List Nat} (c : RC h S) (g : FD h gl) (p : LPk S 0) (hg : ∀ o ∈ gl, o < ct S 3 ∧ 2 ≤ wd S o ∧ wd S o ≤ 40) (hl : gl.length ≤ 96) : TT 51 0 [rv 0 (some 0), un, un, un] [] h 0 0 (fun x h' => x = none ∧ RC h' (lay 12 0 S gl).1 ∧ CF h h') := by
  have loop : ∀ n r S1 nx h1 v, r + n = 12 → RC h1 S1 → FD h1 gl → LPk S1 r → wd S1 = wd S → ct S1 = ct S → nx ≤ gl.length → CF h h1 → TT 51 4 [rv 0 (some 0), iv (nI nx), iv (nI r), v] [] h1 0 0 (fun x h' => x = none ∧ RC h' (lay n r S1 (gl.drop nx)).1 ∧ CF h h') := by
    intro n
    induction n with
    | zero =>
      intro r S1 nx h1 v hr c1 g1 p1 e1 e2 hx cf
      obtain rfl : r = 12 := by omega
      refine TT.forget 3 (ls' := [rv 0 (some 0), iv (nI nx), iv (nI 12), un]) rfl ?_
      refine r_iload_n 5 d_51_4 rfl rfl ?_
      refine r_bipush 7 (nI 12) d_51_5 rfl (by decide) ?_
      refine r_icmp_ge 93 10 d_51_7 (by decide) rfl (fun c_7 => ?_) (fun c_7 => absurd (nI_le (Nat.le_refl _) (by decide)) c_7)
      refine r_return d_51_93 rfl ?_
      exact ⟨rfl, c1, cf⟩
    | succ n ih =>
      intro r S1 nx h1 v hr c1 g1 p1 e1 e2 hx cf
      have hr12 : r < 12 := by omega
      have hk := (p1 r (Nat.le_refl _) hr12).1
      have wh : ∀ m nx S2 h2, nx + m = gl.length → RC h2 S2 → FD h2 gl → LPk S2 r → wd S2 = wd S → ct S2 = ct S → big (kd S2 r) = false → CF h h2 → TT 51 27 [rv 0 (some 0), iv (nI nx), iv (nI r), rv 2 (some r)] [] h2 0 0 (fun x h' => x = none ∧ RC h' (lay n (r + 1) (fin1 (fill r S2 (gl.drop nx)).1 r) (fill r S2 (gl.drop nx)).2).1 ∧ CF h h') := by
        have tail : ∀ nx S2 h2 rest, nx ≤ gl.length → rest = gl.drop nx → RC h2 S2 → FD h2 gl → LPk S2 r → wd S2 = wd S → ct S2 = ct S → big (kd S2 r) = false → CF h h2 → TT 51 67 [rv 0 (some 0), iv (nI nx), iv (nI r), rv 2 (some r)] [] h2 0 0 (fun x h' => x = none ∧ RC h' (lay n (r + 1) (fin1 S2 r) rest).1 ∧ CF h h') := by
          intro nx S2 h2 rest hx hrest c2 g2 p2 e1 e2 hb cf2
          subst hrest
          have hlen := ((p2 r (Nat.le_refl _) hr12).2 hb)
          refine r_aload_n 68 d_51_67 rfl rfl ?_
          refine r_getI 71 2 2 (nI (itm S2 r).length) d_51_68 rfl fk_0_153 rfl (c2.ic hr12) ?_
          refine r_if_le 87 74 d_51_71 (by decide) rfl (fun c_71 => ?_) (fun c_71 => ?_)
          · skip
            refine r_iinc 90 (nI (r + 1)) [rv 0 (some 0), iv (nI nx), iv (nI (r + 1)), rv 2 (some r)] d_51_87 rfl rfl (nI_1 r) rfl rfl ?_
            refine r_goto 4 d_51_90 (by decide) ?_
            first
            | (have e : (itm S2 r).length = 0 := Nat.eq_zero_of_not_pos (fun z => nI_nle z (by omega) c_71); have ef : fin1 S2 r = S2 := if_pos e; have pf := LPk_fin p2; rw [ef] at pf ⊢; exact ih (r + 1) S2 nx h2 _ (by omega) c2 g2 pf e1 e2 hx cf2)
            | (have e : ¬ (itm S2 r).length = 0 := fun z => c_71 (by rw [z]; decide); have ef : fin1 S2 r = olS S2 r := if_neg e; have pf := LPk_fin p2; rw [ef] at pf ⊢; exact ih (r + 1) (olS S2 r) nx _ _ (by omega) (rc_ol c2 r) g2 pf e1 e2 hx (CF_sI (CF_sI cf2 rfl) rfl))
          · skip
            refine r_aload_n 75 d_51_74 rfl rfl ?_
            refine r_iconst 76 (nI 3) d_51_75 rfl (by decide) ?_
            refine r_putI 79 2 3 d_51_76 rfl fk_0_93 (Or.inl rfl) rfl rfl rfl ?_
            refine r_aload_n 80 d_51_79 rfl rfl ?_
            refine r_aload_n 81 d_51_80 rfl rfl ?_
            refine r_getI 84 2 4 (nI (us S2 r)) d_51_81 rfl fk_0_105 rfl (c2.us hr12) ?_
            refine r_putI 87 2 5 d_51_84 rfl fk_0_49 (Or.inl rfl) rfl rfl rfl ?_
            refine r_iinc 90 (nI (r + 1)) [rv 0 (some 0), iv (nI nx), iv (nI (r + 1)), rv 2 (some r)] d_51_87 rfl rfl (nI_1 r) rfl rfl ?_
            refine r_goto 4 d_51_90 (by decide) ?_
            first
            | (have e : (itm S2 r).length = 0 := Nat.eq_zero_of_not_pos (fun z => nI_nle z (by omega) c_71); have ef : fin1 S2 r = S2 := if_pos e; have pf := LPk_fin p2; rw [ef] at pf ⊢; exact ih (r + 1) S2 nx h2 _ (by omega) c2 g2 pf e1 e2 hx cf2)
            | (have e : ¬ (itm S2 r).length = 0 := fun z => c_71 (by rw [z]; decide); have ef : fin1 S2 r = olS S2 r := if_neg e; have pf := LPk_fin p2; rw [ef] at pf ⊢; exact ih (r + 1) (olS S2 r) nx _ _ (by omega) (rc_ol c2 r) g2 pf e1 e2 hx (CF_sI (CF_sI cf2 rfl) rfl))
        intro m
        induction m with
        | zero =>
          intro nx S2 h2 hm c2 g2 p2 e1 e2 hb cf2
          have e0 : gl.drop nx = [] := List.drop_eq_nil_of_le (by omega)
          rw [e0]
          refine r_iload_n 28 d_51_27 rfl rfl ?_
          refine r_aload_n 29 d_51_28 rfl rfl ?_
          refine r_getI 32 0 3 (nI gl.length) d_51_29 rfl fk_0_140 rfl g2.1 ?_
          refine r_icmp_ge 67 35 d_51_32 (by decide) rfl (fun c_32 => ?_) (fun c_32 => absurd (nI_le (by omega) (by omega)) c_32)
          exact tail nx S2 h2 [] (by omega) e0.symm c2 g2 p2 e1 e2 hb cf2
        | succ m ihm =>
          intro nx S2 h2 hm c2 g2 p2 e1 e2 hb cf2
          obtain ⟨o, ho⟩ := at_lt (l := gl) (i := nx) (by omega)
          obtain ⟨ho1, ho2, ho3⟩ := hg o (List.mem_of_getElem? ho)
          have holt : o < ct S2 3 := by rw [e2]; exact ho1
          have hw2 : wd S2 o = wd S o := by rw [e1]
          have hlen := ((p2 r (Nat.le_refl _) hr12).2 hb)
          have hx96 : nx < 96 := by omega
          rw [drop_s ho, fill]
          refine r_iload_n 28 d_51_27 rfl rfl ?_
          refine r_aload_n 29 d_51_28 rfl rfl ?_
          refine r_getI 32 0 3 (nI gl.length) d_51_29 rfl fk_0_140 rfl g2.1 ?_
          refine r_icmp_ge 67 35 d_51_32 (by decide) rfl (fun c_32 => absurd c_32 (nI_ge (by omega) (by omega))) (fun c_32 => ?_)
          refine r_aload_n 36 d_51_35 rfl rfl ?_
          refine r_aload_n 37 d_51_36 rfl rfl ?_
          refine r_getR 40 0 2 4 (some 13) d_51_37 rfl fk_0_24 rfl (by decide) (ST.fnd c2.st) ?_
          refine r_iload_n 41 d_51_40 rfl rfl ?_
          refine r_aald 42 4 1 nx (some o) d_51_41 rfl (Or.inl ⟨rfl, rfl⟩) rfl (ST.lfn c2.st hx96) (g2.2 nx o ho) ?_
          refine r_getI 45 1 1 (nI (wd S2 o)) d_51_42 rfl fk_0_96 rfl (c2.wd holt) ?_
          refine r_callV (k1 := 0) (n1 := 0) (k := 0) (n := 0) 48 3 2 [iv (nI (wd S2 o))] d_51_45 rfl mk_3 lk_0_87 mv_3 rfl rfl rfl rfl rfl _ (c_hasRoom h2 r (us S2 r) (wd S2 o) (c2.us hr12) (by omega)) ?_
          intro r_45 h_45 q_45
          obtain ⟨q1, q2⟩ := q_45
          subst q2
          rw [q1]
          show TT 51 48 [rv 0 (some 0), iv (nI nx), iv (nI r), rv 2 (some r)] [iv (bI (decide (us S2 r + wd S2 o ≤ 16)))] h2 _ _ _
          refine r_if_eq 67 51 d_51_48 (by decide) rfl (fun c_48 => ?_) (fun c_48 => ?_)
          · skip
            have hno := of_decide_eq_false (bI_0 c_48)
            rw [if_neg hno]
            exact tail nx S2 h2 _ (by omega) (drop_s ho).symm c2 g2 p2 e1 e2 hb cf2
          · skip
            have hfit := of_decide_eq_true (bI_1 c_48)
            refine r_aload_n 52 d_51_51 rfl rfl ?_
            refine r_aload_n 53 d_51_52 rfl rfl ?_
            refine r_getR 56 0 2 4 (some 13) d_51_53 rfl fk_0_24 rfl (by decide) (ST.fnd c2.st) ?_
            refine r_iload_n 57 d_51_56 rfl rfl ?_
            refine r_aald 58 4 1 nx (some o) d_51_57 rfl (Or.inl ⟨rfl, rfl⟩) rfl (ST.lfn c2.st hx96) (g2.2 nx o ho) ?_
            refine r_callV (k1 := 0) (n1 := 0) (k := 0) (n := 0) 61 5 2 [rv 1 (some o)] d_51_58 rfl mk_5 lk_0_45 mv_5 rfl rfl rfl rfl rfl _ (c_append h2 r o (itm S2 r).length c2.st hr12 (c2.ic hr12) (by omega)) ?_
            intro r_58 h_58 q_58
            obtain ⟨q1, q2⟩ := q_58
            subst q1
            subst q2
            show TT 51 61 [rv 0 (some 0), iv (nI nx), iv (nI r), rv 2 (some r)] [] (apH h2 r o (itm S2 r).length) _ _ _
            refine r_iinc 64 (nI (nx + 1)) [rv 0 (some 0), iv (nI (nx + 1)), iv (nI r), rv 2 (some r)] d_51_61 rfl rfl (nI_1 nx) rfl rfl ?_
            refine r_goto 27 d_51_64 (by decide) ?_
            rw [if_pos hfit]
            exact ihm (nx + 1) (apS S2 r o) _ (by omega) (rc_ap c2 hr12 holt) (fd_ap g2 hr12) (LPk_ap p2 hr12 hb (by omega) hfit) e1 e2 hb (cf_ap cf2)
      refine TT.forget 3 (ls' := [rv 0 (some 0), iv (nI nx), iv (nI r), un]) rfl ?_
      rw [lay]
      refine r_iload_n 5 d_51_4 rfl rfl ?_
      refine r_bipush 7 (nI 12) d_51_5 rfl (by decide) ?_
      refine r_icmp_ge 93 10 d_51_7 (by decide) rfl (fun c_7 => absurd c_7 (nI_ge hr12 (by decide))) (fun c_7 => ?_)
      refine r_aload_n 11 d_51_10 rfl rfl ?_
      refine r_getR 14 0 0 5 (some 0) d_51_11 rfl fk_0_11 rfl (by decide) (ST.reg c1.st) ?_
      refine r_iload_n 15 d_51_14 rfl rfl ?_
      refine r_aald 16 5 2 r (some r) d_51_15 rfl (Or.inr ⟨rfl, rfl⟩) rfl (ST.l50 c1.st hr12) (ST.rat c1.st hr12) ?_
      refine r_astore_n 17 [rv 0 (some 0), iv (nI nx), iv (nI r), rv 2 (some r)] d_51_16 rfl rfl rfl ?_
      refine r_aload_n 18 d_51_17 rfl rfl ?_
      refine r_callV (k1 := 0) (n1 := 0) (k := 0) (n := 0) 21 4 2 [] d_51_18 rfl mk_4 lk_0_219 mv_4 rfl rfl rfl rfl rfl _ (c_isPartOfLarge h1 r (kd S1 r) (c1.kd hr12) (by omega)) ?_
      intro r_18 h_18 q_18
      obtain ⟨q1, q2⟩ := q_18
      subst q2
      rw [q1]
      show TT 51 21 [rv 0 (some 0), iv (nI nx), iv (nI r), rv 2 (some r)] [iv (bI (big (kd S1 r)))] h1 _ _ _
      refine r_if_eq 27 24 d_51_21 (by decide) rfl (fun c_21 => ?_) (fun c_21 => ?_)
      · skip
        rw [bI_0 c_21, if_neg Bool.false_ne_true]
        exact wh (gl.length - nx) nx S1 h1 (by omega) c1 g1 p1 e1 e2 (bI_0 c_21) cf
      · skip
        refine r_goto 87 d_51_24 (by decide) ?_
        refine r_iinc 90 (nI (r + 1)) [rv 0 (some 0), iv (nI nx), iv (nI (r + 1)), rv 2 (some r)] d_51_87 rfl rfl (nI_1 r) rfl rfl ?_
        refine r_goto 4 d_51_90 (by decide) ?_
        rw [bI_1 c_21, if_pos rfl]
        exact ih (r + 1) S1 nx h1 _ (by omega) c1 g1 (fun r' q1 q2 => p1 r' (by omega) q2) e1 e2 hx cf
  refine r_iconst 1 (nI 0) d_51_0 rfl (by decide) ?_
  refine r_istore_n 2 [rv 0 (some 0), iv (nI 0), un, un] d_51_1 rfl rfl rfl ?_
  refine r_iconst 3 (nI 0) d_51_2 rfl (by decide) ?_
  refine r_istore_n 4 [rv 0 (some 0), iv (nI 0), iv (nI 0), un] d_51_3 rfl rfl rfl ?_
  exact loop 12 0 S 0 h un rfl c g p rfl rfl (Nat.zero_le _) (CF.rf h)
