/-! contracts of the class: weighing old regions -/
def lv0 (S : SS) (r : Nat) : Nat := (lw S r).getD 0
def cand (S : SS) (r : Nat) : Bool := isk S 3 r && ((lw S r).isSome && decide (lv0 S r < us S r))
def gb (S : SS) (r : Nat) : Nat := us S r - lv0 S r
def cst (S : SS) (r : Nat) : Nat := 1 + lv0 S r + inc S r
/-- the flags of candidates, their garbage and cost -/
def FLg (h : AH) (S : SS) (k : Nat → Bool) : Prop := ∀ r, r < 12 → hI h 2 r 9 = bI (k r) ∧ (k r = true → hI h 2 r 10 = nI (gb S r) ∧ hI h 2 r 11 = nI (cst S r))
theorem rc_29 {h : AH} {S : SS} (c : RC h S) (r : Nat) (v : Int32) : RC (sI h 2 r 9 v) S := c
theorem rc_2AB {h : AH} {S : SS} (c : RC h S) (r : Nat) (v w : Int32) : RC (sI (sI h 2 r 10 v) 2 r 11 w) S := c
theorem c_weighRegions {h : AH} {S : SS} (c : RC h S) (b : BD S) (cl : CL S) : TT 39 0 [rv 0 (some 0), un, un] [] h 0 0 (fun x h' => x = none ∧ RC h' S ∧ FLg h' S (cand S) ∧ CF h h') := by
  have loop : ∀ n r h1 v, r + n = 12 → RC h1 S → (∀ r', r' < r → hI h1 2 r' 9 = bI (cand S r') ∧ (cand S r' = true → hI h1 2 r' 10 = nI (gb S r') ∧ hI h1 2 r' 11 = nI (cst S r'))) → CF h h1 → TT 39 2 [rv 0 (some 0), iv (nI r), v] [] h1 0 0 (fun x h' => x = none ∧ RC h' S ∧ FLg h' S (cand S) ∧ CF h h') := by
    intro n
    induction n with
    | zero =>
      intro r h1 v hr c1 f cf
      obtain rfl : r = 12 := by omega
      refine TT.forget 2 (ls' := [rv 0 (some 0), iv (nI 12), un]) rfl ?_
      refine r_iload_n 3 d_39_2 rfl rfl ?_
      refine r_bipush 5 (nI 12) d_39_3 rfl (by decide) ?_
      refine r_icmp_ge 93 8 d_39_5 (by decide) rfl (fun c_5 => ?_) (fun c_5 => absurd (nI_le (Nat.le_refl _) (by decide)) c_5)
      refine r_return d_39_93 rfl ?_
      exact ⟨rfl, c1, f, cf⟩
    | succ n ih =>
      intro r h1 v hr c1 f cf
      have hr12 : r < 12 := by omega
      have hu := b.us hr12
      have step : ∀ h2, RC h2 S → (∀ r', r' < r → hI h2 2 r' 9 = bI (cand S r') ∧ (cand S r' = true → hI h2 2 r' 10 = nI (gb S r') ∧ hI h2 2 r' 11 = nI (cst S r'))) → (hI h2 2 r 9 = bI (cand S r) ∧ (cand S r = true → hI h2 2 r 10 = nI (gb S r) ∧ hI h2 2 r 11 = nI (cst S r))) → CF h h2 → TT 39 2 [rv 0 (some 0), iv (nI (r + 1)), rv 2 (some r)] [] h2 0 0 (fun x h' => x = none ∧ RC h' S ∧ FLg h' S (cand S) ∧ CF h h') := by
        intro h2 c2 f2 fr cf2
        refine ih (r + 1) h2 _ (by omega) c2 (fun r' hr' => ?_) cf2
        rcases Nat.lt_or_ge r' r with q | q
        · exact f2 r' q
        · obtain rfl : r' = r := by omega
          exact fr
      have no : cand S r = false → TT 39 48 [rv 0 (some 0), iv (nI r), rv 2 (some r)] [iv (nI 0), rv 2 (some r)] h1 0 0 (fun x h' => x = none ∧ RC h' S ∧ FLg h' S (cand S) ∧ CF h h') := by
        intro hc
        refine r_putI 51 2 9 d_39_48 rfl fk_0_192 (Or.inl rfl) rfl rfl rfl ?_
        refine r_aload_n 52 d_39_51 rfl rfl ?_
        refine r_getI 55 2 9 (nI 0) d_39_52 rfl fk_0_192 rfl hI_at ?_
        refine r_if_eq 87 58 d_39_55 (by decide) rfl (fun c_55 => ?_) (fun c_55 => absurd rfl c_55)
        refine r_iinc 90 (nI (r + 1)) [rv 0 (some 0), iv (nI (r + 1)), rv 2 (some r)] d_39_87 rfl rfl (nI_1 r) rfl rfl ?_
        refine r_goto 2 d_39_90 (by decide) ?_
        exact step _ (rc_29 c1 r _) (fun r' hr' => ⟨(hI_ne (by omega) 9).trans (f r' hr').1, (f r' hr').2⟩) ⟨hI_at.trans (by rw [hc]; rfl), fun z => by rw [hc] at z; cases z⟩ (CF_sI cf rfl)
      refine TT.forget 2 (ls' := [rv 0 (some 0), iv (nI r), un]) rfl ?_
      cases hl : lw S r with
      | none =>
        refine r_iload_n 3 d_39_2 rfl rfl ?_
        refine r_bipush 5 (nI 12) d_39_3 rfl (by decide) ?_
        refine r_icmp_ge 93 8 d_39_5 (by decide) rfl (fun c_5 => absurd c_5 (nI_ge hr12 (by decide))) (fun c_5 => ?_)
        refine r_aload_n 9 d_39_8 rfl rfl ?_
        refine r_getR 12 0 0 5 (some 0) d_39_9 rfl fk_0_11 rfl (by decide) (ST.reg c1.st) ?_
        refine r_iload_n 13 d_39_12 rfl rfl ?_
        refine r_aald 14 5 2 r (some r) d_39_13 rfl (Or.inr ⟨rfl, rfl⟩) rfl (ST.l50 c1.st hr12) (ST.rat c1.st hr12) ?_
        refine r_astore_n 15 [rv 0 (some 0), iv (nI r), rv 2 (some r)] d_39_14 rfl rfl rfl ?_
        refine r_aload_n 16 d_39_15 rfl rfl ?_
        refine r_aload_n 17 d_39_16 rfl rfl ?_
        refine r_getI 20 2 3 (nI (kd S r)) d_39_17 rfl fk_0_93 rfl (c1.kd hr12) ?_
        refine r_iconst 21 (nI 3) d_39_20 rfl (by decide) ?_
        refine r_icmp_ne 47 24 d_39_21 (by decide) rfl (fun c_21 => ?_) (fun c_21 => ?_)
        · skip
          refine r_iconst 48 (nI 0) d_39_47 rfl (by decide) ?_
          exact no (by unfold cand; rw [hl]; simp)
        · skip
          refine r_aload_n 25 d_39_24 rfl rfl ?_
          refine r_getI 28 2 5 (-1) d_39_25 rfl fk_0_49 rfl ((c1.lw hr12).trans (by rw [hl]; rfl)) ?_
          refine r_iconst 29 (-1) d_39_28 rfl (by decide) ?_
          refine r_icmp_eq 47 32 d_39_29 (by decide) rfl (fun c_29 => ?_) (fun c_29 => absurd rfl c_29)
          refine r_iconst 48 (nI 0) d_39_47 rfl (by decide) ?_
          exact no (by unfold cand; rw [hl]; simp)
      | some x =>
        have hx := b.lw hr12 hl
        have e0 : lv0 S r = x := by unfold lv0; rw [hl]; rfl
        have yes : cand S r = true → TT 39 48 [rv 0 (some 0), iv (nI r), rv 2 (some r)] [iv (nI 1), rv 2 (some r)] h1 0 0 (fun x h' => x = none ∧ RC h' S ∧ FLg h' S (cand S) ∧ CF h h') := by
          intro hc
          have hlt : x < us S r := by
            unfold cand at hc
            simp only [Bool.and_eq_true] at hc
            rw [← e0]
            exact of_decide_eq_true hc.2.2
          refine r_putI 51 2 9 d_39_48 rfl fk_0_192 (Or.inl rfl) rfl rfl rfl ?_
          refine r_aload_n 52 d_39_51 rfl rfl ?_
          refine r_getI 55 2 9 (nI 1) d_39_52 rfl fk_0_192 rfl hI_at ?_
          refine r_if_eq 87 58 d_39_55 (by decide) rfl (fun c_55 => absurd c_55 (by decide)) (fun c_55 => ?_)
          refine r_aload_n 59 d_39_58 rfl rfl ?_
          refine r_aload_n 60 d_39_59 rfl rfl ?_
          refine r_getI 63 2 4 (nI (us S r)) d_39_60 rfl fk_0_105 rfl (c1.us hr12) ?_
          refine r_aload_n 64 d_39_63 rfl rfl ?_
          refine r_getI 67 2 5 (nI x) d_39_64 rfl fk_0_49 rfl ((c1.lw hr12).trans (by rw [hl]; rfl)) ?_
          refine r_isub 68 (nI (us S r - x)) d_39_67 rfl (pk_sub (by omega)) ?_
          refine r_putI 71 2 10 d_39_68 rfl fk_0_201 (Or.inl rfl) rfl rfl rfl ?_
          refine r_aload_n 72 d_39_71 rfl rfl ?_
          refine r_iconst 73 (nI 1) d_39_72 rfl (by decide) ?_
          refine r_aload_n 74 d_39_73 rfl rfl ?_
          refine r_getI 77 2 5 (nI x) d_39_74 rfl fk_0_49 rfl ((c1.lw hr12).trans (by rw [hl]; rfl)) ?_
          refine r_iadd 78 (nI (1 + x)) d_39_77 rfl (nI_add 1 x) ?_
          refine r_aload_n 79 d_39_78 rfl rfl ?_
          refine r_aload_n 80 d_39_79 rfl rfl ?_
          refine r_callV (k1 := 0) (n1 := 0) (k := 0) (n := 0) 83 41 0 [rv 2 (some r)] d_39_80 rfl mk_41 lk_0_204 mv_41 rfl rfl rfl rfl rfl _ (c_incomingTo (h := sI (sI h1 2 r 9 (nI 1)) 2 r 10 (nI (us S r - x))) (S := S) c1 b cl hr12) ?_
          intro r_80 h_80 q_80
          obtain ⟨q1, q2⟩ := q_80
          subst q2
          rw [q1]
          show TT 39 83 [rv 0 (some 0), iv (nI r), rv 2 (some r)] [iv (nI (inc S r)), iv (nI (1 + x)), rv 2 (some r)] (sI (sI h1 2 r 9 (nI 1)) 2 r 10 (nI (us S r - x))) _ _ _
          refine r_iadd 84 (nI ((1 + x) + (inc S r))) d_39_83 rfl (nI_add (1 + x) (inc S r)) ?_
          refine r_putI 87 2 11 d_39_84 rfl fk_0_195 (Or.inl rfl) rfl rfl rfl ?_
          refine r_iinc 90 (nI (r + 1)) [rv 0 (some 0), iv (nI (r + 1)), rv 2 (some r)] d_39_87 rfl rfl (nI_1 r) rfl rfl ?_
          refine r_goto 2 d_39_90 (by decide) ?_
          exact step _ (rc_2AB (S := S) (rc_29 c1 r _) r _ _) (fun r' hr' => ⟨(hI_ne (h := h1) (k := 9) (v := nI 1) (by omega) 9).trans (f r' hr').1, fun z => ⟨(hI_ne (h := h1) (k := 10) (v := nI (us S r - x)) (by omega) 10).trans ((f r' hr').2 z).1, (hI_ne (h := h1) (s := 2) (i := r) (k := 11) (v := nI (1 + x + inc S r)) (by omega) 11).trans ((f r' hr').2 z).2⟩⟩) ⟨(hI_at (h := h1)).trans (by rw [hc]; rfl), fun _ => ⟨(hI_at (h := h1)).trans (by unfold gb; rw [e0]), (hI_at (h := h1)).trans (by unfold cst; rw [e0])⟩⟩ (CF_sI (CF_sI (CF_sI cf rfl) rfl) rfl)
        refine r_iload_n 3 d_39_2 rfl rfl ?_
        refine r_bipush 5 (nI 12) d_39_3 rfl (by decide) ?_
        refine r_icmp_ge 93 8 d_39_5 (by decide) rfl (fun c_5 => absurd c_5 (nI_ge hr12 (by decide))) (fun c_5 => ?_)
        refine r_aload_n 9 d_39_8 rfl rfl ?_
        refine r_getR 12 0 0 5 (some 0) d_39_9 rfl fk_0_11 rfl (by decide) (ST.reg c1.st) ?_
        refine r_iload_n 13 d_39_12 rfl rfl ?_
        refine r_aald 14 5 2 r (some r) d_39_13 rfl (Or.inr ⟨rfl, rfl⟩) rfl (ST.l50 c1.st hr12) (ST.rat c1.st hr12) ?_
        refine r_astore_n 15 [rv 0 (some 0), iv (nI r), rv 2 (some r)] d_39_14 rfl rfl rfl ?_
        refine r_aload_n 16 d_39_15 rfl rfl ?_
        refine r_aload_n 17 d_39_16 rfl rfl ?_
        refine r_getI 20 2 3 (nI (kd S r)) d_39_17 rfl fk_0_93 rfl (c1.kd hr12) ?_
        refine r_iconst 21 (nI 3) d_39_20 rfl (by decide) ?_
        refine r_icmp_ne 47 24 d_39_21 (by decide) rfl (fun c_21 => ?_) (fun c_21 => ?_)
        · skip
          refine r_iconst 48 (nI 0) d_39_47 rfl (by decide) ?_
          first
          | exact no (by unfold cand; rw [isk_f c_21]; rfl)
          | exact no (by unfold cand; rw [e0, decide_eq_false (Nat.not_lt.mpr ((nI_leI (by omega) (by omega)).mp c_40)), Bool.and_false, Bool.and_false])
          | exact yes (by unfold cand; rw [isk_t b hr12 (by decide) c_21, e0, hl, decide_eq_true (Nat.not_le.mp (fun z => c_40 ((nI_leI (by omega) (by omega)).mpr z)))]; rfl)
        · skip
          refine r_aload_n 25 d_39_24 rfl rfl ?_
          refine r_getI 28 2 5 (nI x) d_39_25 rfl fk_0_49 rfl ((c1.lw hr12).trans (by rw [hl]; rfl)) ?_
          refine r_iconst 29 (-1) d_39_28 rfl (by decide) ?_
          refine r_icmp_eq 47 32 d_39_29 (by decide) rfl (fun c_29 => absurd c_29 (fun z => nI_pos (n := x) (by omega) (by rw [z]; decide))) (fun c_29 => ?_)
          refine r_aload_n 33 d_39_32 rfl rfl ?_
          refine r_getI 36 2 4 (nI (us S r)) d_39_33 rfl fk_0_105 rfl (c1.us hr12) ?_
          refine r_aload_n 37 d_39_36 rfl rfl ?_
          refine r_getI 40 2 5 (nI x) d_39_37 rfl fk_0_49 rfl ((c1.lw hr12).trans (by rw [hl]; rfl)) ?_
          refine r_icmp_le 47 43 d_39_40 (by decide) rfl (fun c_40 => ?_) (fun c_40 => ?_)
          · skip
            refine r_iconst 48 (nI 0) d_39_47 rfl (by decide) ?_
            first
            | exact no (by unfold cand; rw [isk_f c_21]; rfl)
            | exact no (by unfold cand; rw [e0, decide_eq_false (Nat.not_lt.mpr ((nI_leI (by omega) (by omega)).mp c_40)), Bool.and_false, Bool.and_false])
            | exact yes (by unfold cand; rw [isk_t b hr12 (by decide) c_21, e0, hl, decide_eq_true (Nat.not_le.mp (fun z => c_40 ((nI_leI (by omega) (by omega)).mpr z)))]; rfl)
          · skip
            refine r_iconst 44 (nI 1) d_39_43 rfl (by decide) ?_
            refine r_goto 48 d_39_44 (by decide) ?_
            first
            | exact no (by unfold cand; rw [isk_f c_21]; rfl)
            | exact no (by unfold cand; rw [e0, decide_eq_false (Nat.not_lt.mpr ((nI_leI (by omega) (by omega)).mp c_40)), Bool.and_false, Bool.and_false])
            | exact yes (by unfold cand; rw [isk_t b hr12 (by decide) c_21, e0, hl, decide_eq_true (Nat.not_le.mp (fun z => c_40 ((nI_leI (by omega) (by omega)).mpr z)))]; rfl)
  refine r_iconst 1 (nI 0) d_39_0 rfl (by decide) ?_
  refine r_istore_n 2 [rv 0 (some 0), iv (nI 0), un] d_39_1 rfl rfl rfl ?_
  exact loop 12 0 h un rfl c (fun r' hr' => absurd hr' (Nat.not_lt_zero r')) (CF.rf h)
theorem ffI_le {S : SS} {o r : Nat} (h : (fd S o).length ≤ 3) : ffI S o r ≤ 3 := Nat.le_trans (List.length_filter_le _ _) h
theorem fsum_le {S : SS} {r : Nat} : ∀ (l : List Nat), (∀ o ∈ l, (fd S o).length ≤ 3) → fsum S r l ≤ l.length * 3
  | [], _ => Nat.zero_le _
  | o :: l, h => by
    have h1 := fsum_le (r := r) l (fun x hx => h x (List.mem_cons_of_mem _ hx))
    have h2 := ffI_le (r := r) (h o List.mem_cons_self)
    have e : fsum S r (o :: l) = ffI S o r + fsum S r l := by simp [fsum]
    rw [e, List.length_cons, Nat.succ_mul]
    omega
theorem smf_le {f : Nat → Nat} {k : Nat} : ∀ n, (∀ r, r < n → f r ≤ k) → smf f n ≤ n * k
  | 0, _ => Nat.zero_le _
  | n + 1, h => by
    have h1 := smf_le n (fun r hr => h r (by omega))
    have h2 := h n (by omega)
    unfold smf
    rw [Nat.succ_mul]
    omega
theorem inc_le {h : AH} {S : SS} (c : RC h S) (b : BD S) (r : Nat) : inc S r ≤ 288 := by
  refine smf_le (k := 24) 12 (fun r' hr' => ?_)
  unfold inR
  split
  · omega
  · have h1 := fsum_le (r := r) (itm S r') (fun o ho => b.fd (by
      obtain ⟨i, hi⟩ := List.getElem?_of_mem ho
      exact c.ilt hr' hi))
    have h2 := b.it hr'
    omega
def cb (S : SS) (r q : Nat) : Bool := decide (gb S q * cst S r < gb S r * cst S q) || (decide (gb S r * cst S q = gb S q * cst S r) && decide (r < q))
theorem lv0_le {S : SS} (b : BD S) {r : Nat} (hr : r < 12) : lv0 S r ≤ 16 := by
  unfold lv0
  cases hl : lw S r with
  | none => exact Nat.zero_le _
  | some x => exact b.lw hr hl
theorem gc_le {h : AH} {S : SS} (c : RC h S) (b : BD S) {r q : Nat} (hr : r < 12) (hq : q < 12) : gb S r * cst S q ≤ 64 * 305 := by
  have h1 := b.us hr
  have h2 := lv0_le b hq
  have h3 := inc_le c b q
  exact Nat.mul_le_mul (by unfold gb; omega) (by unfold cst; omega)
theorem c_comesBefore {h : AH} {S : SS} {k : Nat → Bool} (c : RC h S) (b : BD S) (f : FLg h S k) {r q : Nat} (hr : r < 12) (hq : q < 12) (kr : k r = true) (kq : k q = true) : TT 8 0 [rv 2 (some r), rv 2 (some q), un, un] [] h 0 0 (fun x h' => h' = h ∧ x = some (iv (bI (cb S r q)))) := by
  have l1 := gc_le c b hr hq
  have l2 := gc_le c b hq hr
  refine r_aload_n 1 d_8_0 rfl rfl ?_
  refine r_getI 4 2 10 (nI (gb S r)) d_8_1 rfl fk_2_47 rfl ((f r hr).2 kr).1 ?_
  refine r_aload_n 5 d_8_4 rfl rfl ?_
  refine r_getI 8 2 11 (nI (cst S q)) d_8_5 rfl fk_2_50 rfl ((f q hq).2 kq).2 ?_
  refine r_imul 9 (nI (gb S r * cst S q)) d_8_8 rfl (pk_mul _ _) ?_
  refine r_istore_n 10 [rv 2 (some r), rv 2 (some q), iv (nI (gb S r * cst S q)), un] d_8_9 rfl rfl rfl ?_
  refine r_aload_n 11 d_8_10 rfl rfl ?_
  refine r_getI 14 2 10 (nI (gb S q)) d_8_11 rfl fk_2_47 rfl ((f q hq).2 kq).1 ?_
  refine r_aload_n 15 d_8_14 rfl rfl ?_
  refine r_getI 18 2 11 (nI (cst S r)) d_8_15 rfl fk_2_50 rfl ((f r hr).2 kr).2 ?_
  refine r_imul 19 (nI (gb S q * cst S r)) d_8_18 rfl (pk_mul _ _) ?_
  refine r_istore_n 20 [rv 2 (some r), rv 2 (some q), iv (nI (gb S r * cst S q)), iv (nI (gb S q * cst S r))] d_8_19 rfl rfl rfl ?_
  refine r_iload_n 21 d_8_20 rfl rfl ?_
  refine r_iload_n 22 d_8_21 rfl rfl ?_
  refine r_icmp_gt 41 25 d_8_22 (by decide) rfl (fun c_22 => ?_) (fun c_22 => ?_)
  · skip
    refine r_iconst 42 (nI 1) d_8_41 rfl (by decide) ?_
    refine r_goto 46 d_8_42 (by decide) ?_
    refine r_zreturn d_8_46 rfl rfl ?_
    refine ⟨rfl, ?_⟩
    unfold cb
    first
    | (rw [decide_eq_true ((nI_ltI (by omega) (by omega)).mp c_22)]; rfl)
    | (rw [decide_eq_false (fun z => c_22 ((nI_ltI (by omega) (by omega)).mpr z)), decide_eq_false (fun z => c_27 (by rw [z]))]; rfl)
    | (rw [decide_eq_false (fun z => c_22 ((nI_ltI (by omega) (by omega)).mpr z)), decide_eq_false (Nat.not_lt.mpr ((nI_leI (by omega) (by omega)).mp c_38)), Bool.and_false]; rfl)
    | (rw [decide_eq_true ((nI_eq (by omega) (by omega)).mp c_27), decide_eq_true (Nat.not_le.mp (fun z => c_38 ((nI_leI (by omega) (by omega)).mpr z))), Bool.and_self, Bool.or_true]; rfl)
  · skip
    refine r_iload_n 26 d_8_25 rfl rfl ?_
    refine r_iload_n 27 d_8_26 rfl rfl ?_
    refine r_icmp_ne 45 30 d_8_27 (by decide) rfl (fun c_27 => ?_) (fun c_27 => ?_)
    · skip
      refine r_iconst 46 (nI 0) d_8_45 rfl (by decide) ?_
      refine r_zreturn d_8_46 rfl rfl ?_
      refine ⟨rfl, ?_⟩
      unfold cb
      first
      | (rw [decide_eq_true ((nI_ltI (by omega) (by omega)).mp c_22)]; rfl)
      | (rw [decide_eq_false (fun z => c_22 ((nI_ltI (by omega) (by omega)).mpr z)), decide_eq_false (fun z => c_27 (by rw [z]))]; rfl)
      | (rw [decide_eq_false (fun z => c_22 ((nI_ltI (by omega) (by omega)).mpr z)), decide_eq_false (Nat.not_lt.mpr ((nI_leI (by omega) (by omega)).mp c_38)), Bool.and_false]; rfl)
      | (rw [decide_eq_true ((nI_eq (by omega) (by omega)).mp c_27), decide_eq_true (Nat.not_le.mp (fun z => c_38 ((nI_leI (by omega) (by omega)).mpr z))), Bool.and_self, Bool.or_true]; rfl)
    · skip
      refine r_aload_n 31 d_8_30 rfl rfl ?_
      refine r_getI 34 2 0 (nI r) d_8_31 rfl fk_2_9 rfl (c.st.idx hr) ?_
      refine r_aload_n 35 d_8_34 rfl rfl ?_
      refine r_getI 38 2 0 (nI q) d_8_35 rfl fk_2_9 rfl (c.st.idx hq) ?_
      refine r_icmp_ge 45 41 d_8_38 (by decide) rfl (fun c_38 => ?_) (fun c_38 => ?_)
      · skip
        refine r_iconst 46 (nI 0) d_8_45 rfl (by decide) ?_
        refine r_zreturn d_8_46 rfl rfl ?_
        refine ⟨rfl, ?_⟩
        unfold cb
        first
        | (rw [decide_eq_true ((nI_ltI (by omega) (by omega)).mp c_22)]; rfl)
        | (rw [decide_eq_false (fun z => c_22 ((nI_ltI (by omega) (by omega)).mpr z)), decide_eq_false (fun z => c_27 (by rw [z]))]; rfl)
        | (rw [decide_eq_false (fun z => c_22 ((nI_ltI (by omega) (by omega)).mpr z)), decide_eq_false (Nat.not_lt.mpr ((nI_leI (by omega) (by omega)).mp c_38)), Bool.and_false]; rfl)
        | (rw [decide_eq_true ((nI_eq (by omega) (by omega)).mp c_27), decide_eq_true (Nat.not_le.mp (fun z => c_38 ((nI_leI (by omega) (by omega)).mpr z))), Bool.and_self, Bool.or_true]; rfl)
      · skip
        refine r_iconst 42 (nI 1) d_8_41 rfl (by decide) ?_
        refine r_goto 46 d_8_42 (by decide) ?_
        refine r_zreturn d_8_46 rfl rfl ?_
        refine ⟨rfl, ?_⟩
        unfold cb
        first
        | (rw [decide_eq_true ((nI_ltI (by omega) (by omega)).mp c_22)]; rfl)
        | (rw [decide_eq_false (fun z => c_22 ((nI_ltI (by omega) (by omega)).mpr z)), decide_eq_false (fun z => c_27 (by rw [z]))]; rfl)
        | (rw [decide_eq_false (fun z => c_22 ((nI_ltI (by omega) (by omega)).mpr z)), decide_eq_false (Nat.not_lt.mpr ((nI_leI (by omega) (by omega)).mp c_38)), Bool.and_false]; rfl)
        | (rw [decide_eq_true ((nI_eq (by omega) (by omega)).mp c_27), decide_eq_true (Nat.not_le.mp (fun z => c_38 ((nI_leI (by omega) (by omega)).mpr z))), Bool.and_self, Bool.or_true]; rfl)
/-- the best of the candidates from r on, or b -/
def bst (S : SS) (k : Nat → Bool) : Nat → Nat → Option Nat → Option Nat
  | 0, _, b => b
  | n + 1, r, b => bst S k n (r + 1) (if (k r && (match b with
    | none => true
    | some q => cb S r q)) = true then some r else b)
theorem c_bestCandidate {h : AH} {S : SS} {k : Nat → Bool} (c : RC h S) (b : BD S) (f : FLg h S k) : TT 40 0 [rv 0 (some 0), un, un, un] [] h 0 0 (fun x h' => h' = h ∧ x = some (rv 2 (bst S k 12 0 none))) := by
  have loop : ∀ n r (o : Option Nat) v, r + n = 12 → (∀ q, o = some q → q < 12 ∧ k q = true) → TT 40 4 [rv 0 (some 0), rv 2 o, iv (nI r), v] [] h 0 0 (fun x h' => h' = h ∧ x = some (rv 2 (bst S k n r o))) := by
    intro n
    induction n with
    | zero =>
      intro r o v hr ho
      obtain rfl : r = 12 := by omega
      refine TT.forget 3 (ls' := [rv 0 (some 0), rv 2 o, iv (nI 12), un]) rfl ?_
      refine r_iload_n 5 d_40_4 rfl rfl ?_
      refine r_bipush 7 (nI 12) d_40_5 rfl (by decide) ?_
      refine r_icmp_ge 44 10 d_40_7 (by decide) rfl (fun c_7 => ?_) (fun c_7 => absurd (nI_le (Nat.le_refl _) (by decide)) c_7)
      refine r_aload_n 45 d_40_44 rfl rfl ?_
      refine r_areturn d_40_45 rfl ?_
      exact ⟨rfl, rfl⟩
    | succ n ih =>
      intro r o v hr ho
      have hr12 : r < 12 := by omega
      refine TT.forget 3 (ls' := [rv 0 (some 0), rv 2 o, iv (nI r), un]) rfl ?_
      cases o with
      | none =>
        refine r_iload_n 5 d_40_4 rfl rfl ?_
        refine r_bipush 7 (nI 12) d_40_5 rfl (by decide) ?_
        refine r_icmp_ge 44 10 d_40_7 (by decide) rfl (fun c_7 => absurd c_7 (nI_ge hr12 (by decide))) (fun c_7 => ?_)
        refine r_aload_n 11 d_40_10 rfl rfl ?_
        refine r_getR 14 0 0 5 (some 0) d_40_11 rfl fk_0_11 rfl (by decide) (ST.reg c.st) ?_
        refine r_iload_n 15 d_40_14 rfl rfl ?_
        refine r_aald 16 5 2 r (some r) d_40_15 rfl (Or.inr ⟨rfl, rfl⟩) rfl (ST.l50 c.st hr12) (ST.rat c.st hr12) ?_
        refine r_astore_n 17 [rv 0 (some 0), rv 2 none, iv (nI r), rv 2 (some r)] d_40_16 rfl rfl rfl ?_
        refine r_aload_n 18 d_40_17 rfl rfl ?_
        refine r_getI 21 2 9 (bI (k r)) d_40_18 rfl fk_0_192 rfl (f r hr12).1 ?_
        refine r_if_eq 38 24 d_40_21 (by decide) rfl (fun c_21 => ?_) (fun c_21 => ?_)
        · skip
          refine r_iinc 41 (nI (r + 1)) [rv 0 (some 0), rv 2 none, iv (nI (r + 1)), rv 2 (some r)] d_40_38 rfl rfl (nI_1 r) rfl rfl ?_
          refine r_goto 4 d_40_41 (by decide) ?_
          first
          | (have z := ih (r + 1) none (rv 2 (some r)) (by omega) ho; have e : bst S k (n + 1) r none = bst S k n (r + 1) none := (by rw [bst, bI_0 c_21]; rfl); rw [e]; exact z)
          | (have z := ih (r + 1) (some r) (rv 2 (some r)) (by omega) (fun q hq => by cases hq; exact ⟨hr12, bI_1 c_21⟩); have e : bst S k (n + 1) r none = bst S k n (r + 1) (some r) := (by rw [bst, bI_1 c_21]; rfl); rw [e]; exact z)
        · skip
          refine r_aload_n 25 d_40_24 rfl rfl ?_
          refine r_ifnull 36 28 d_40_25 (by decide) rfl (fun c_25 => ?_) (fun i_25 c_25 => absurd c_25 (by simp))
          refine r_aload_n 37 d_40_36 rfl rfl ?_
          refine r_astore_n 38 [rv 0 (some 0), rv 2 (some r), iv (nI r), rv 2 (some r)] d_40_37 rfl rfl rfl ?_
          refine r_iinc 41 (nI (r + 1)) [rv 0 (some 0), rv 2 (some r), iv (nI (r + 1)), rv 2 (some r)] d_40_38 rfl rfl (nI_1 r) rfl rfl ?_
          refine r_goto 4 d_40_41 (by decide) ?_
          first
          | (have z := ih (r + 1) none (rv 2 (some r)) (by omega) ho; have e : bst S k (n + 1) r none = bst S k n (r + 1) none := (by rw [bst, bI_0 c_21]; rfl); rw [e]; exact z)
          | (have z := ih (r + 1) (some r) (rv 2 (some r)) (by omega) (fun q hq => by cases hq; exact ⟨hr12, bI_1 c_21⟩); have e : bst S k (n + 1) r none = bst S k n (r + 1) (some r) := (by rw [bst, bI_1 c_21]; rfl); rw [e]; exact z)
      | some q =>
        obtain ⟨hq12, kq⟩ := ho q rfl
        refine r_iload_n 5 d_40_4 rfl rfl ?_
        refine r_bipush 7 (nI 12) d_40_5 rfl (by decide) ?_
        refine r_icmp_ge 44 10 d_40_7 (by decide) rfl (fun c_7 => absurd c_7 (nI_ge hr12 (by decide))) (fun c_7 => ?_)
        refine r_aload_n 11 d_40_10 rfl rfl ?_
        refine r_getR 14 0 0 5 (some 0) d_40_11 rfl fk_0_11 rfl (by decide) (ST.reg c.st) ?_
        refine r_iload_n 15 d_40_14 rfl rfl ?_
        refine r_aald 16 5 2 r (some r) d_40_15 rfl (Or.inr ⟨rfl, rfl⟩) rfl (ST.l50 c.st hr12) (ST.rat c.st hr12) ?_
        refine r_astore_n 17 [rv 0 (some 0), rv 2 (some q), iv (nI r), rv 2 (some r)] d_40_16 rfl rfl rfl ?_
        refine r_aload_n 18 d_40_17 rfl rfl ?_
        refine r_getI 21 2 9 (bI (k r)) d_40_18 rfl fk_0_192 rfl (f r hr12).1 ?_
        refine r_if_eq 38 24 d_40_21 (by decide) rfl (fun c_21 => ?_) (fun c_21 => ?_)
        · skip
          refine r_iinc 41 (nI (r + 1)) [rv 0 (some 0), rv 2 (some q), iv (nI (r + 1)), rv 2 (some r)] d_40_38 rfl rfl (nI_1 r) rfl rfl ?_
          refine r_goto 4 d_40_41 (by decide) ?_
          first
          | (have z := ih (r + 1) (some q) (rv 2 (some r)) (by omega) ho; have e : bst S k (n + 1) r (some q) = bst S k n (r + 1) (some q) := (by rw [bst, bI_0 c_21]; rfl); rw [e]; exact z)
          | (have z := ih (r + 1) (some q) (rv 2 (some r)) (by omega) ho; have e : bst S k (n + 1) r (some q) = bst S k n (r + 1) (some q) := (by rw [bst]; simp only [bI_0 c_33, Bool.and_false]; rfl); rw [e]; exact z)
          | (have z := ih (r + 1) (some r) (rv 2 (some r)) (by omega) (fun q hq => by cases hq; exact ⟨hr12, bI_1 c_21⟩); have e : bst S k (n + 1) r (some q) = bst S k n (r + 1) (some r) := (by rw [bst]; simp only [bI_1 c_21, bI_1 c_33]; rfl); rw [e]; exact z)
        · skip
          refine r_aload_n 25 d_40_24 rfl rfl ?_
          refine r_ifnull 36 28 d_40_25 (by decide) rfl (fun c_25 => absurd c_25 (by simp)) (fun i_25 c_25 => ?_)
          refine r_aload_n 29 d_40_28 rfl rfl ?_
          refine r_aload_n 30 d_40_29 rfl rfl ?_
          refine r_callV (k1 := 0) (n1 := 0) (k := 0) (n := 0) 33 8 2 [rv 2 (some q)] d_40_30 rfl mk_8 lk_0_208 mv_8 rfl rfl rfl rfl rfl _ (c_comesBefore c b f hr12 hq12 (bI_1 c_21) kq) ?_
          intro r_30 h_30 q_30
          obtain ⟨q1, q2⟩ := q_30
          subst q2
          rw [q1]
          show TT 40 33 [rv 0 (some 0), rv 2 (some q), iv (nI r), rv 2 (some r)] [iv (bI (cb S r q))] h _ _ _
          refine r_if_eq 38 36 d_40_33 (by decide) rfl (fun c_33 => ?_) (fun c_33 => ?_)
          · skip
            refine r_iinc 41 (nI (r + 1)) [rv 0 (some 0), rv 2 (some q), iv (nI (r + 1)), rv 2 (some r)] d_40_38 rfl rfl (nI_1 r) rfl rfl ?_
            refine r_goto 4 d_40_41 (by decide) ?_
            first
            | (have z := ih (r + 1) (some q) (rv 2 (some r)) (by omega) ho; have e : bst S k (n + 1) r (some q) = bst S k n (r + 1) (some q) := (by rw [bst, bI_0 c_21]; rfl); rw [e]; exact z)
            | (have z := ih (r + 1) (some q) (rv 2 (some r)) (by omega) ho; have e : bst S k (n + 1) r (some q) = bst S k n (r + 1) (some q) := (by rw [bst]; simp only [bI_0 c_33, Bool.and_false]; rfl); rw [e]; exact z)
            | (have z := ih (r + 1) (some r) (rv 2 (some r)) (by omega) (fun q hq => by cases hq; exact ⟨hr12, bI_1 c_21⟩); have e : bst S k (n + 1) r (some q) = bst S k n (r + 1) (some r) := (by rw [bst]; simp only [bI_1 c_21, bI_1 c_33]; rfl); rw [e]; exact z)
          · skip
            refine r_aload_n 37 d_40_36 rfl rfl ?_
            refine r_astore_n 38 [rv 0 (some 0), rv 2 (some r), iv (nI r), rv 2 (some r)] d_40_37 rfl rfl rfl ?_
            refine r_iinc 41 (nI (r + 1)) [rv 0 (some 0), rv 2 (some r), iv (nI (r + 1)), rv 2 (some r)] d_40_38 rfl rfl (nI_1 r) rfl rfl ?_
            refine r_goto 4 d_40_41 (by decide) ?_
            first
            | (have z := ih (r + 1) (some q) (rv 2 (some r)) (by omega) ho; have e : bst S k (n + 1) r (some q) = bst S k n (r + 1) (some q) := (by rw [bst, bI_0 c_21]; rfl); rw [e]; exact z)
            | (have z := ih (r + 1) (some q) (rv 2 (some r)) (by omega) ho; have e : bst S k (n + 1) r (some q) = bst S k n (r + 1) (some q) := (by rw [bst]; simp only [bI_0 c_33, Bool.and_false]; rfl); rw [e]; exact z)
            | (have z := ih (r + 1) (some r) (rv 2 (some r)) (by omega) (fun q hq => by cases hq; exact ⟨hr12, bI_1 c_21⟩); have e : bst S k (n + 1) r (some q) = bst S k n (r + 1) (some r) := (by rw [bst]; simp only [bI_1 c_21, bI_1 c_33]; rfl); rw [e]; exact z)
  refine r_null 1 2 d_40_0 rfl ?_
  refine r_astore_n 2 [rv 0 (some 0), rv 2 none, un, un] d_40_1 rfl rfl rfl ?_
  refine r_iconst 3 (nI 0) d_40_2 rfl (by decide) ?_
  refine r_istore_n 4 [rv 0 (some 0), rv 2 none, iv (nI 0), un] d_40_3 rfl rfl rfl ?_
  exact loop 12 0 none un rfl (fun q hq => by cases hq)
