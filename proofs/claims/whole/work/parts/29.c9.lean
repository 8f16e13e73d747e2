/-! contracts of the class: a full collection -/
def big (k : Nat) : Bool := decide (k = 4 ∨ k = 5)
def stay (S : SS) (fl : List Nat) : Nat → Bool
  | 0 => false
  | n + 1 => if kd S n = 4 then decide (0 < swr S fl n) else stay S fl n
def gone (S : SS) (fl : List Nat) (n r : Nat) : Bool := decide (r < n) && (!big (kd S r) || !stay S fl (r + 1))
def tuS (S : SS) (fl : List Nat) (n : Nat) : SS := mkS (fun r => if gone S fl n r = true then 0 else kd S r) (fun r => if gone S fl n r = true then 0 else us S r) (fun r => if gone S fl n r = true then none else lw S r) (fun r => if gone S fl n r = true then [] else itm S r) (ro S) (wd S) (fd S) (hm S) (so S) (cu S) (ct S)
def tuL (S : SS) (fl : List Nat) : Nat → List Nat
  | 0 => []
  | n + 1 => tuL S fl n ++ (if big (kd S n) = true then [] else (itm S n).filter (rin fl))
theorem gone_lt (S : SS) (fl : List Nat) {n r : Nat} (h : n ≤ r) : gone S fl n r = false := by
  unfold gone
  rw [decide_eq_false (by omega)]
  rfl
theorem gone_s (S : SS) (fl : List Nat) {n r : Nat} (h : r ≠ n) : gone S fl (n + 1) r = gone S fl n r := by
  unfold gone
  congr 1
  simp only [decide_eq_decide]
  omega
theorem gone_n (S : SS) (fl : List Nat) (n : Nat) : gone S fl (n + 1) n = (!big (kd S n) || !stay S fl (n + 1)) := by
  unfold gone
  rw [decide_eq_true (by omega)]
  rfl
theorem up_gone {α : Type} {S : SS} {fl : List Nat} {n : Nat} (f : Nat → α) (z : α) (hg : (!big (kd S n) || !stay S fl (n + 1)) = true) : (fun r => if gone S fl (n + 1) r = true then z else f r) = va_up (fun r => if gone S fl n r = true then z else f r) n z := by
  funext r
  unfold va_up
  by_cases e : r = n
  · subst e
    rw [if_pos rfl, gone_n, if_pos hg]
  · rw [if_neg e, gone_s S fl e]
theorem no_gone {α : Type} {S : SS} {fl : List Nat} {n : Nat} (f : Nat → α) (z : α) (hg : (!big (kd S n) || !stay S fl (n + 1)) = false) : (fun r => if gone S fl (n + 1) r = true then z else f r) = fun r => if gone S fl n r = true then z else f r := by
  funext r
  by_cases e : r = n
  · subst e
    rw [gone_n, hg, gone_lt S fl (Nat.le_refl _)]
  · rw [gone_s S fl e]
theorem tuS_c {S : SS} {fl : List Nat} {n : Nat} (hg : (!big (kd S n) || !stay S fl (n + 1)) = true) : tuS S fl (n + 1) = clS (tuS S fl n) n := by
  unfold tuS
  rw [up_gone (kd S) 0 hg, up_gone (us S) 0 hg, up_gone (lw S) none hg, up_gone (itm S) [] hg]
  rfl
theorem tuS_k {S : SS} {fl : List Nat} {n : Nat} (hg : (!big (kd S n) || !stay S fl (n + 1)) = false) : tuS S fl (n + 1) = tuS S fl n := by
  unfold tuS
  rw [no_gone (kd S) 0 hg, no_gone (us S) 0 hg, no_gone (lw S) none hg, no_gone (itm S) [] hg]
theorem tuS_0 (S : SS) (fl : List Nat) : tuS S fl 0 = S := by
  have e : ∀ r, gone S fl 0 r = false := fun r => gone_lt S fl (Nat.zero_le r)
  unfold tuS
  simp only [e, if_neg Bool.false_ne_true]
  rfl
theorem tu_kd (S : SS) (fl : List Nat) (n : Nat) : kd (tuS S fl n) n = kd S n := by
  show (if gone S fl n n = true then 0 else kd S n) = kd S n
  rw [gone_lt S fl (Nat.le_refl _), if_neg Bool.false_ne_true]
theorem tu_itm (S : SS) (fl : List Nat) (n : Nat) : itm (tuS S fl n) n = itm S n := by
  show (if gone S fl n n = true then [] else itm S n) = itm S n
  rw [gone_lt S fl (Nat.le_refl _), if_neg Bool.false_ne_true]
theorem tu_swr (S : SS) (fl : List Nat) (n : Nat) : swr (tuS S fl n) fl n = swr S fl n := by
  unfold swr
  rw [tu_itm]
  rfl
theorem tu_all {S : SS} {fl : List Nat} {n o : Nat} (h : o ∈ all (tuS S fl n)) : o ∈ all S := by
  obtain ⟨r, h1, h2⟩ := mem_all.mp h
  refine mem_all.mpr ⟨r, h1, ?_⟩
  have h3 : o ∈ (if gone S fl n r = true then [] else itm S r) := h2
  split at h3
  · cases h3
  · exact h3
theorem tuL_len {S : SS} {fl : List Nat} (b : BD S) : ∀ n, n ≤ 12 → (tuL S fl n).length ≤ n * 8
  | 0, _ => Nat.zero_le _
  | n + 1, hn => by
    have h1 := tuL_len (fl := fl) b n (by omega)
    have h2 := b.it (r := n) (by omega)
    have h3 := List.length_filter_le (rin fl) (itm S n)
    unfold tuL
    rw [List.length_append, Nat.succ_mul]
    split
    · simp only [List.length_nil]; omega
    · omega
theorem sw_le {S : SS} {k : Nat} : ∀ (l : List Nat), (∀ o ∈ l, wd S o ≤ k) → sw S l ≤ l.length * k
  | [], _ => Nat.zero_le _
  | o :: l, h => by
    have h1 := sw_le l (fun x hx => h x (List.mem_cons_of_mem _ hx))
    have h2 := h o List.mem_cons_self
    have e : sw S (o :: l) = wd S o + sw S l := by simp [sw]
    rw [e, List.length_cons, Nat.succ_mul]
    omega
theorem swr_le {h : AH} {S : SS} {fl : List Nat} (c : RC h S) (b : BD S) {r : Nat} (hr : r < 12) : swr S fl r ≤ 320 := by
  have h1 := sw_le (S := S) (k := 40) ((itm S r).filter (rin fl)) (fun o ho => b.wd (by
    obtain ⟨i, hi⟩ := List.getElem?_of_mem (List.mem_filter.mp ho).1
    exact c.ilt hr hi))
  have h2 := List.length_filter_le (rin fl) (itm S r)
  have h3 := b.it hr
  unfold swr
  omega
theorem c_takeUpSmall {h : AH} {S : SS} {fl : List Nat} (c : RC h S) (b : BD S) (f : RF h S fl) : TT 49 0 [rv 0 (some 0), un, un, un] [] h 0 0 (fun x h' => x = none ∧ RC h' (tuS S fl 12) ∧ FD h' (tuL S fl 12) ∧ CF h h') := by
  have loop : ∀ n r h1 v, r + n = 12 → RC h1 (tuS S fl r) → RF h1 S fl → FD h1 (tuL S fl r) → CF h h1 → TT 49 9 [rv 0 (some 0), iv (bI (stay S fl r)), iv (nI r), v] [] h1 0 0 (fun x h' => x = none ∧ RC h' (tuS S fl 12) ∧ FD h' (tuL S fl 12) ∧ CF h h') := by
    intro n
    induction n with
    | zero =>
      intro r h1 v hr c1 f1 g1 cf
      obtain rfl : r = 12 := by omega
      refine TT.forget 3 (ls' := [rv 0 (some 0), iv (bI (stay S fl 12)), iv (nI 12), un]) rfl ?_
      refine r_iload_n 10 d_49_9 rfl rfl ?_
      refine r_bipush 12 (nI 12) d_49_10 rfl (by decide) ?_
      refine r_icmp_ge 76 15 d_49_12 (by decide) rfl (fun c_12 => ?_) (fun c_12 => absurd (nI_le (Nat.le_refl _) (by decide)) c_12)
      refine r_return d_49_76 rfl ?_
      exact ⟨rfl, c1, g1, cf⟩
    | succ n ih =>
      intro r h1 v hr c1 f1 g1 cf
      have hr12 : r < 12 := by omega
      have hk := b.kd hr12
      have hl8 : (itm (tuS S fl r) r).length ≤ 8 := by rw [tu_itm]; exact b.it hr12
      have hgl := tuL_len (fl := fl) b r (by omega)
      have f2 : ∀ h2, RF h2 S fl → RF h2 (tuS S fl r) fl := fun h2 q o ho => q o (tu_all ho)
      have tail : ∀ h2, RC h2 (tuS S fl r) → RF h2 S fl → FD h2 (tuL S fl (r + 1)) → CF h h2 → TT 49 55 [rv 0 (some 0), iv (bI (stay S fl (r + 1))), iv (nI r), rv 2 (some r)] [] h2 0 0 (fun x h' => x = none ∧ RC h' (tuS S fl 12) ∧ FD h' (tuL S fl 12) ∧ CF h h') := by
        intro h2 c2 f2 g2 cf2
        refine r_aload_n 56 d_49_55 rfl rfl ?_
        refine r_callV (k1 := 0) (n1 := 0) (k := 0) (n := 0) 59 4 2 [] d_49_56 rfl mk_4 lk_0_219 mv_4 rfl rfl rfl rfl rfl _ (c_isPartOfLarge h2 r (kd S r) ((c2.kd hr12).trans (by rw [tu_kd])) (by omega)) ?_
        intro r_56 h_56 q_56
        obtain ⟨q1, q2⟩ := q_56
        subst q2
        rw [q1]
        show TT 49 59 [rv 0 (some 0), iv (bI (stay S fl (r + 1))), iv (nI r), rv 2 (some r)] [iv (bI (big (kd S r)))] h2 _ _ _
        refine r_if_eq 66 62 d_49_59 (by decide) rfl (fun c_59 => ?_) (fun c_59 => ?_)
        · skip
          refine r_aload_n 67 d_49_66 rfl rfl ?_
          refine r_callV (k1 := 0) (n1 := 0) (k := 0) (n := 0) 70 6 2 [] d_49_67 rfl mk_6 lk_0_176 mv_6 rfl rfl rfl rfl rfl _ (c_clear h2 r) ?_
          intro r_67 h_67 q_67
          obtain ⟨q1, q2⟩ := q_67
          subst q1
          subst q2
          show TT 49 70 [rv 0 (some 0), iv (bI (stay S fl (r + 1))), iv (nI r), rv 2 (some r)] [] (clH h2 r) _ _ _
          refine r_iinc 73 (nI (r + 1)) [rv 0 (some 0), iv (bI (stay S fl (r + 1))), iv (nI (r + 1)), rv 2 (some r)] d_49_70 rfl rfl (nI_1 r) rfl rfl ?_
          refine r_goto 9 d_49_73 (by decide) ?_
          first
          | (refine ih (r + 1) _ _ (by omega) (by rw [tuS_c (by rw [bI_0 c_59]; rfl)]; exact rc_cl c2 r) f2 g2 (CF_sI (CF_sI (CF_sI (CF_sI cf2 rfl) rfl) rfl) rfl))
          | (refine ih (r + 1) _ _ (by omega) (by rw [tuS_c (by rw [bI_0 c_63, Bool.not_false, Bool.or_true])]; exact rc_cl c2 r) f2 g2 (CF_sI (CF_sI (CF_sI (CF_sI cf2 rfl) rfl) rfl) rfl))
          | (refine ih (r + 1) _ _ (by omega) (by rw [tuS_k (by rw [bI_1 c_59, bI_1 c_63]; rfl)]; exact c2) f2 g2 cf2)
        · skip
          refine r_iload_n 63 d_49_62 rfl rfl ?_
          refine r_if_ne 70 66 d_49_63 (by decide) rfl (fun c_63 => ?_) (fun c_63 => ?_)
          · skip
            refine r_iinc 73 (nI (r + 1)) [rv 0 (some 0), iv (bI (stay S fl (r + 1))), iv (nI (r + 1)), rv 2 (some r)] d_49_70 rfl rfl (nI_1 r) rfl rfl ?_
            refine r_goto 9 d_49_73 (by decide) ?_
            first
            | (refine ih (r + 1) _ _ (by omega) (by rw [tuS_c (by rw [bI_0 c_59]; rfl)]; exact rc_cl c2 r) f2 g2 (CF_sI (CF_sI (CF_sI (CF_sI cf2 rfl) rfl) rfl) rfl))
            | (refine ih (r + 1) _ _ (by omega) (by rw [tuS_c (by rw [bI_0 c_63, Bool.not_false, Bool.or_true])]; exact rc_cl c2 r) f2 g2 (CF_sI (CF_sI (CF_sI (CF_sI cf2 rfl) rfl) rfl) rfl))
            | (refine ih (r + 1) _ _ (by omega) (by rw [tuS_k (by rw [bI_1 c_59, bI_1 c_63]; rfl)]; exact c2) f2 g2 cf2)
          · skip
            refine r_aload_n 67 d_49_66 rfl rfl ?_
            refine r_callV (k1 := 0) (n1 := 0) (k := 0) (n := 0) 70 6 2 [] d_49_67 rfl mk_6 lk_0_176 mv_6 rfl rfl rfl rfl rfl _ (c_clear h2 r) ?_
            intro r_67 h_67 q_67
            obtain ⟨q1, q2⟩ := q_67
            subst q1
            subst q2
            show TT 49 70 [rv 0 (some 0), iv (bI (stay S fl (r + 1))), iv (nI r), rv 2 (some r)] [] (clH h2 r) _ _ _
            refine r_iinc 73 (nI (r + 1)) [rv 0 (some 0), iv (bI (stay S fl (r + 1))), iv (nI (r + 1)), rv 2 (some r)] d_49_70 rfl rfl (nI_1 r) rfl rfl ?_
            refine r_goto 9 d_49_73 (by decide) ?_
            first
            | (refine ih (r + 1) _ _ (by omega) (by rw [tuS_c (by rw [bI_0 c_59]; rfl)]; exact rc_cl c2 r) f2 g2 (CF_sI (CF_sI (CF_sI (CF_sI cf2 rfl) rfl) rfl) rfl))
            | (refine ih (r + 1) _ _ (by omega) (by rw [tuS_c (by rw [bI_0 c_63, Bool.not_false, Bool.or_true])]; exact rc_cl c2 r) f2 g2 (CF_sI (CF_sI (CF_sI (CF_sI cf2 rfl) rfl) rfl) rfl))
            | (refine ih (r + 1) _ _ (by omega) (by rw [tuS_k (by rw [bI_1 c_59, bI_1 c_63]; rfl)]; exact c2) f2 g2 cf2)
      have body : TT 49 43 [rv 0 (some 0), iv (bI (stay S fl (r + 1))), iv (nI r), rv 2 (some r)] [] h1 0 0 (fun x h' => x = none ∧ RC h' (tuS S fl 12) ∧ FD h' (tuL S fl 12) ∧ CF h h') := by
        refine r_aload_n 44 d_49_43 rfl rfl ?_
        refine r_callV (k1 := 0) (n1 := 0) (k := 0) (n := 0) 47 4 2 [] d_49_44 rfl mk_4 lk_0_219 mv_4 rfl rfl rfl rfl rfl _ (c_isPartOfLarge h1 r (kd S r) ((c1.kd hr12).trans (by rw [tu_kd])) (by omega)) ?_
        intro r_44 h_44 q_44
        obtain ⟨q1, q2⟩ := q_44
        subst q2
        rw [q1]
        show TT 49 47 [rv 0 (some 0), iv (bI (stay S fl (r + 1))), iv (nI r), rv 2 (some r)] [iv (bI (big (kd S r)))] h1 _ _ _
        refine r_if_ne 55 50 d_49_47 (by decide) rfl (fun c_47 => ?_) (fun c_47 => ?_)
        · skip
          first
          | (refine tail h1 c1 f1 ?_ cf; unfold tuL; rw [bI_1 c_47, if_pos rfl, List.append_nil]; exact g1)
          | (rw [tu_itm] at q4; exact tail h_52 q2 (fun o ho => (q3 o).trans (f1 o ho)) (by unfold tuL; rw [bI_0 c_47, if_neg Bool.false_ne_true]; exact q4) (cf.tr q5))
        · skip
          refine r_aload_n 51 d_49_50 rfl rfl ?_
          refine r_aload_n 52 d_49_51 rfl rfl ?_
          refine r_callV (k1 := 0) (n1 := 0) (k := 0) (n := 0) 55 50 0 [rv 2 (some r)] d_49_52 rfl mk_50 lk_0_243 mv_50 rfl rfl rfl rfl rfl _ (c_takeUpReached c1 (f2 h1 f1) g1 hr12 hl8 (by omega)) ?_
          intro r_52 h_52 q_52
          obtain ⟨q1, q2, q3, q4, q5⟩ := q_52
          subst q1
          show TT 49 55 [rv 0 (some 0), iv (bI (stay S fl (r + 1))), iv (nI r), rv 2 (some r)] [] h_52 _ _ _
          first
          | (refine tail h1 c1 f1 ?_ cf; unfold tuL; rw [bI_1 c_47, if_pos rfl, List.append_nil]; exact g1)
          | (rw [tu_itm] at q4; exact tail h_52 q2 (fun o ho => (q3 o).trans (f1 o ho)) (by unfold tuL; rw [bI_0 c_47, if_neg Bool.false_ne_true]; exact q4) (cf.tr q5))
      refine TT.forget 3 (ls' := [rv 0 (some 0), iv (bI (stay S fl r)), iv (nI r), un]) rfl ?_
      refine r_iload_n 10 d_49_9 rfl rfl ?_
      refine r_bipush 12 (nI 12) d_49_10 rfl (by decide) ?_
      refine r_icmp_ge 76 15 d_49_12 (by decide) rfl (fun c_12 => absurd c_12 (nI_ge hr12 (by decide))) (fun c_12 => ?_)
      refine r_aload_n 16 d_49_15 rfl rfl ?_
      refine r_getR 19 0 0 5 (some 0) d_49_16 rfl fk_0_11 rfl (by decide) (ST.reg c1.st) ?_
      refine r_iload_n 20 d_49_19 rfl rfl ?_
      refine r_aald 21 5 2 r (some r) d_49_20 rfl (Or.inr ⟨rfl, rfl⟩) rfl (ST.l50 c1.st hr12) (ST.rat c1.st hr12) ?_
      refine r_astore_n 22 [rv 0 (some 0), iv (bI (stay S fl r)), iv (nI r), rv 2 (some r)] d_49_21 rfl rfl rfl ?_
      refine r_aload_n 23 d_49_22 rfl rfl ?_
      refine r_getI 26 2 3 (nI (kd S r)) d_49_23 rfl fk_0_93 rfl ((c1.kd hr12).trans (by rw [tu_kd])) ?_
      refine r_iconst 27 (nI 4) d_49_26 rfl (by decide) ?_
      refine r_icmp_ne 43 30 d_49_27 (by decide) rfl (fun c_27 => ?_) (fun c_27 => ?_)
      · skip
        have e : stay S fl (r + 1) = stay S fl r := by
          show (if kd S r = 4 then decide (0 < swr S fl r) else stay S fl r) = _
          rw [if_neg (fun z => c_27 (by rw [z]))]
        rw [e] at body
        exact body
      · skip
        refine r_aload_n 31 d_49_30 rfl rfl ?_
        refine r_callV (k1 := 0) (n1 := 0) (k := 0) (n := 0) 34 7 2 [] d_49_31 rfl mk_7 lk_0_222 mv_7 rfl rfl rfl rfl rfl _ (c_reachedWords c1 (f2 h1 f1) hr12 hl8) ?_
        intro r_31 h_31 q_31
        obtain ⟨q1, q2⟩ := q_31
        subst q2
        rw [q1]
        show TT 49 34 [rv 0 (some 0), iv (bI (stay S fl r)), iv (nI r), rv 2 (some r)] [iv (nI (swr (tuS S fl r) fl r))] h1 _ _ _
        refine r_if_le 41 37 d_49_34 (by decide) rfl (fun c_34 => ?_) (fun c_34 => ?_)
        · skip
          refine r_iconst 42 (nI 0) d_49_41 rfl (by decide) ?_
          have e4 := (nI_eq (a := kd S r) (b := 4) (by omega) (by decide)).mp c_27
          have hs := swr_le (fl := fl) c b hr12
          rw [tu_swr] at c_34
          have e : stay S fl (r + 1) = decide (0 < swr S fl r) := by
            show (if kd S r = 4 then decide (0 < swr S fl r) else stay S fl r) = _
            rw [if_pos e4]
          first
          | (rw [e, decide_eq_false (fun z => nI_nle z (by omega) c_34)] at body; refine r_istore_n 43 [rv 0 (some 0), iv (nI 0), iv (nI r), rv 2 (some r)] d_49_42 rfl rfl rfl ?_; exact body)
          | (rw [e, decide_eq_true (Nat.pos_of_ne_zero (fun z => c_34 (by rw [z]; decide)))] at body; refine r_istore_n 43 [rv 0 (some 0), iv (nI 1), iv (nI r), rv 2 (some r)] d_49_42 rfl rfl rfl ?_; exact body)
        · skip
          refine r_iconst 38 (nI 1) d_49_37 rfl (by decide) ?_
          refine r_goto 42 d_49_38 (by decide) ?_
          have e4 := (nI_eq (a := kd S r) (b := 4) (by omega) (by decide)).mp c_27
          have hs := swr_le (fl := fl) c b hr12
          rw [tu_swr] at c_34
          have e : stay S fl (r + 1) = decide (0 < swr S fl r) := by
            show (if kd S r = 4 then decide (0 < swr S fl r) else stay S fl r) = _
            rw [if_pos e4]
          first
          | (rw [e, decide_eq_false (fun z => nI_nle z (by omega) c_34)] at body; refine r_istore_n 43 [rv 0 (some 0), iv (nI 0), iv (nI r), rv 2 (some r)] d_49_42 rfl rfl rfl ?_; exact body)
          | (rw [e, decide_eq_true (Nat.pos_of_ne_zero (fun z => c_34 (by rw [z]; decide)))] at body; refine r_istore_n 43 [rv 0 (some 0), iv (nI 1), iv (nI r), rv 2 (some r)] d_49_42 rfl rfl rfl ?_; exact body)
  refine r_aload_n 1 d_49_0 rfl rfl ?_
  refine r_iconst 2 (nI 0) d_49_1 rfl (by decide) ?_
  refine r_putI 5 0 3 d_49_2 rfl fk_0_140 (Or.inl rfl) rfl rfl rfl ?_
  refine r_iconst 6 (nI 0) d_49_5 rfl (by decide) ?_
  refine r_istore_n 7 [rv 0 (some 0), iv (nI 0), un, un] d_49_6 rfl rfl rfl ?_
  refine r_iconst 8 (nI 0) d_49_7 rfl (by decide) ?_
  refine r_istore_n 9 [rv 0 (some 0), iv (nI 0), iv (nI 0), un] d_49_8 rfl rfl rfl ?_
  exact loop 12 0 _ un rfl (by rw [tuS_0]; exact rc_03 c _) f ⟨rfl, fun i o hi => by cases hi⟩ (CF_sI (CF.rf h) rfl)
