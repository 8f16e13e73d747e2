/-! contracts of the class: the whole plan -/
def roL (S : SS) (i : Nat) : Nat → List (Option Nat)
  | 0 => []
  | n + 1 => ro S i :: roL S (i + 1) n
theorem c_planRoots {h : AH} {S : SS} {col : Nat → Bool} {P : PP} (c : RC h S) (b : BD S) (cl : CL S) (sm : SMc S col) (p : RP h S col P) (i : PI S col P) (ok : po P = true) : TT 30 0 [rv 0 (some 0), un] [] h 0 0 (fun x h' => x = some (iv (bI (po (finds S col P (roL S 0 6))))) ∧ RC h' S ∧ RP h' S col (finds S col P (roL S 0 6)) ∧ CF h h') := by
  have loop : ∀ n k h1 P1, k + n = 6 → RC h1 S → RP h1 S col P1 → PI S col P1 → po P1 = true → finds S col P (roL S 0 6) = finds S col P1 (roL S k n) → CF h h1 → TT 30 2 [rv 0 (some 0), iv (nI k)] [] h1 0 0 (fun x h' => x = some (iv (bI (po (finds S col P (roL S 0 6))))) ∧ RC h' S ∧ RP h' S col (finds S col P (roL S 0 6)) ∧ CF h h') := by
    intro n
    induction n with
    | zero =>
      intro k h1 P1 hk c1 p1 i1 ok1 he cf
      obtain rfl : k = 6 := by omega
      have e1 : finds S col P (roL S 0 6) = P1 := he
      rw [e1]
      refine r_iload_n 3 d_30_2 rfl rfl ?_
      refine r_bipush 5 (nI 6) d_30_3 rfl (by decide) ?_
      refine r_icmp_ge 29 8 d_30_5 (by decide) rfl (fun c_5 => ?_) (fun c_5 => absurd (nI_le (Nat.le_refl _) (by decide)) c_5)
      refine r_iconst 30 (nI 1) d_30_29 rfl (by decide) ?_
      refine r_zreturn d_30_30 rfl rfl ?_
      exact ⟨by rw [ok1]; rfl, c1, p1, cf⟩
    | succ n ih =>
      intro k h1 P1 hk c1 p1 i1 ok1 he cf
      have hk6 : k < 6 := by omega
      have hwm : ∀ x, ro S k = some x → x ∈ all S := fun x hx => cl.1 k x hk6 hx
      have e2 : finds S col P (roL S 0 6) = finds S col (find1 S col P1 (ro S k)) (roL S (k + 1) n) := he
      refine r_iload_n 3 d_30_2 rfl rfl ?_
      refine r_bipush 5 (nI 6) d_30_3 rfl (by decide) ?_
      refine r_icmp_ge 29 8 d_30_5 (by decide) rfl (fun c_5 => absurd c_5 (nI_ge hk6 (by decide))) (fun c_5 => ?_)
      refine r_aload_n 9 d_30_8 rfl rfl ?_
      refine r_aload_n 10 d_30_9 rfl rfl ?_
      refine r_getR 13 0 1 4 (some 12) d_30_10 rfl fk_0_20 rfl (by decide) (ST.roo c1.st) ?_
      refine r_iload_n 14 d_30_13 rfl rfl ?_
      refine r_aald 15 4 1 k (ro S k) d_30_14 rfl (Or.inl ⟨rfl, rfl⟩) rfl (ST.lro c1.st hk6) (c1.ro hk6) ?_
      refine r_callV (k1 := 0) (n1 := 0) (k := 0) (n := 0) 18 34 0 [rv 1 (ro S k)] d_30_15 rfl mk_34 lk_0_162 mv_34 rfl rfl rfl rfl rfl _ (c_planCopy c1 b cl p1 i1 ok1 (ro S k) hwm) ?_
      intro r_15 h_15 q_15
      obtain ⟨q1, q2, q3, q4⟩ := q_15
      subst q1
      show TT 30 18 [rv 0 (some 0), iv (nI k)] [iv (bI (po (find1 S col P1 (ro S k))))] h_15 _ _ _
      refine r_if_ne 23 21 d_30_18 (by decide) rfl (fun c_18 => ?_) (fun c_18 => ?_)
      · skip
        refine r_iinc 26 (nI (k + 1)) [rv 0 (some 0), iv (nI (k + 1))] d_30_23 rfl rfl (nI_1 k) rfl rfl ?_
        refine r_goto 2 d_30_26 (by decide) ?_
        exact ih (k + 1) h_15 _ (by omega) q2 q3 (find1_PI i1 sm _ hwm) (bI_1 c_18) e2 (cf.tr q4)
      · skip
        refine r_iconst 22 (nI 0) d_30_21 rfl (by decide) ?_
        refine r_zreturn d_30_22 rfl rfl ?_
        have eb := bI_0 c_18
        rw [e2, finds_bad eb]
        exact ⟨by rw [eb]; rfl, q2, q3, cf.tr q4⟩
  refine r_iconst 1 (nI 0) d_30_0 rfl (by decide) ?_
  refine r_istore_n 2 [rv 0 (some 0), iv (nI 0)] d_30_1 rfl rfl rfl ?_
  exact loop 6 0 h P rfl c p i ok rfl (CF.rf h)
def stL (S : SS) (col : Nat → Bool) : Nat → Nat → List (Option Nat)
  | 0, _ => []
  | n + 1, r => (if col r = true then [] else (itm S r).flatMap (fd S)) ++ stL S col n (r + 1)
theorem fm_drop {S : SS} {l : List Nat} {i o : Nat} (h : l[i]? = some o) : (l.drop i).flatMap (fd S) = fd S o ++ (l.drop (i + 1)).flatMap (fd S) := by
  rw [drop_s h]
  rfl
theorem c_planRegionsThatStay {h : AH} {S : SS} {col : Nat → Bool} {P : PP} (c : RC h S) (b : BD S) (cl : CL S) (sm : SMc S col) (p : RP h S col P) (i : PI S col P) (ok : po P = true) : TT 31 0 [rv 0 (some 0), un, un, un] [] h 0 0 (fun x h' => x = some (iv (bI (po (finds S col P (stL S col 12 0))))) ∧ RC h' S ∧ RP h' S col (finds S col P (stL S col 12 0)) ∧ CF h h') := by
  have loop : ∀ n r h1 P1 v w, r + n = 12 → RC h1 S → RP h1 S col P1 → PI S col P1 → po P1 = true → finds S col P (stL S col 12 0) = finds S col P1 (stL S col n r) → CF h h1 → TT 31 2 [rv 0 (some 0), iv (nI r), v, w] [] h1 0 0 (fun x h' => x = some (iv (bI (po (finds S col P (stL S col 12 0))))) ∧ RC h' S ∧ RP h' S col (finds S col P (stL S col 12 0)) ∧ CF h h') := by
    intro n
    induction n with
    | zero =>
      intro r h1 P1 v w hr c1 p1 i1 ok1 he cf
      obtain rfl : r = 12 := by omega
      have e1 : finds S col P (stL S col 12 0) = P1 := he
      rw [e1]
      refine TT.forget 2 (ls' := [rv 0 (some 0), iv (nI 12), un, w]) rfl ?_
      refine TT.forget 3 (ls' := [rv 0 (some 0), iv (nI 12), un, un]) rfl ?_
      refine r_iload_n 3 d_31_2 rfl rfl ?_
      refine r_bipush 5 (nI 12) d_31_3 rfl (by decide) ?_
      refine r_icmp_ge 59 8 d_31_5 (by decide) rfl (fun c_5 => ?_) (fun c_5 => absurd (nI_le (Nat.le_refl _) (by decide)) c_5)
      refine r_iconst 60 (nI 1) d_31_59 rfl (by decide) ?_
      refine r_zreturn d_31_60 rfl rfl ?_
      exact ⟨by rw [ok1]; rfl, c1, p1, cf⟩
    | succ n ih =>
      intro r h1 P1 v w hr c1 p1 i1 ok1 he cf
      have hr12 : r < 12 := by omega
      have hl8 := b.it hr12
      refine TT.forget 2 (ls' := [rv 0 (some 0), iv (nI r), un, w]) rfl ?_
      refine TT.forget 3 (ls' := [rv 0 (some 0), iv (nI r), un, un]) rfl ?_
      cases hc : col r with
      | true =>
        have e1 : finds S col P (stL S col 12 0) = finds S col P1 (stL S col n (r + 1)) := by
          rw [he, stL, hc, if_pos rfl]
          rfl
        refine r_iload_n 3 d_31_2 rfl rfl ?_
        refine r_bipush 5 (nI 12) d_31_3 rfl (by decide) ?_
        refine r_icmp_ge 59 8 d_31_5 (by decide) rfl (fun c_5 => absurd c_5 (nI_ge hr12 (by decide))) (fun c_5 => ?_)
        refine r_aload_n 9 d_31_8 rfl rfl ?_
        refine r_getR 12 0 0 5 (some 0) d_31_9 rfl fk_0_11 rfl (by decide) (ST.reg c1.st) ?_
        refine r_iload_n 13 d_31_12 rfl rfl ?_
        refine r_aald 14 5 2 r (some r) d_31_13 rfl (Or.inr ⟨rfl, rfl⟩) rfl (ST.l50 c1.st hr12) (ST.rat c1.st hr12) ?_
        refine r_astore_n 15 [rv 0 (some 0), iv (nI r), rv 2 (some r), un] d_31_14 rfl rfl rfl ?_
        refine r_iconst 16 (nI 0) d_31_15 rfl (by decide) ?_
        refine r_istore_n 17 [rv 0 (some 0), iv (nI r), rv 2 (some r), iv (nI 0)] d_31_16 rfl rfl rfl ?_
        refine r_aload_n 18 d_31_17 rfl rfl ?_
        refine r_getI 21 2 6 (nI 1) d_31_18 rfl fk_0_143 rfl ((p1.1 r hr12).1.trans (by rw [hc]; rfl)) ?_
        refine r_if_ne 53 24 d_31_21 (by decide) rfl (fun c_21 => ?_) (fun c_21 => absurd c_21 (by decide))
        refine r_iinc 56 (nI (r + 1)) [rv 0 (some 0), iv (nI (r + 1)), rv 2 (some r), iv (nI 0)] d_31_53 rfl rfl (nI_1 r) rfl rfl ?_
        refine r_goto 2 d_31_56 (by decide) ?_
        exact ih (r + 1) h1 P1 _ _ (by omega) c1 p1 i1 ok1 e1 cf
      | false =>
        have e1 : finds S col P (stL S col 12 0) = finds S col P1 ((itm S r).flatMap (fd S) ++ stL S col n (r + 1)) := by
          rw [he, stL, hc, if_neg Bool.false_ne_true]
        have inner : ∀ m j h2 P2, j + m = (itm S r).length → RC h2 S → RP h2 S col P2 → PI S col P2 → po P2 = true → finds S col P (stL S col 12 0) = finds S col P2 (((itm S r).drop j).flatMap (fd S) ++ stL S col n (r + 1)) → CF h h2 → TT 31 17 [rv 0 (some 0), iv (nI r), rv 2 (some r), iv (nI j)] [] h2 0 0 (fun x h' => x = some (iv (bI (po (finds S col P (stL S col 12 0))))) ∧ RC h' S ∧ RP h' S col (finds S col P (stL S col 12 0)) ∧ CF h h') := by
          intro m
          induction m with
          | zero =>
            intro j h2 P2 hj c2 p2 i2 ok2 he2 cf2
            have e0 : (itm S r).drop j = [] := List.drop_eq_nil_of_le (by omega)
            rw [e0] at he2
            refine r_aload_n 18 d_31_17 rfl rfl ?_
            refine r_getI 21 2 6 (nI 0) d_31_18 rfl fk_0_143 rfl ((p2.1 r hr12).1.trans (by rw [hc]; rfl)) ?_
            refine r_if_ne 53 24 d_31_21 (by decide) rfl (fun c_21 => absurd c_21 (fun z => z rfl)) (fun c_21 => ?_)
            refine r_iload_n 25 d_31_24 rfl rfl ?_
            refine r_aload_n 26 d_31_25 rfl rfl ?_
            refine r_getI 29 2 2 (nI (itm S r).length) d_31_26 rfl fk_0_153 rfl (c2.ic hr12) ?_
            refine r_icmp_ge 53 32 d_31_29 (by decide) rfl (fun c_29 => ?_) (fun c_29 => absurd (nI_le (by omega) (by omega)) c_29)
            refine r_iinc 56 (nI (r + 1)) [rv 0 (some 0), iv (nI (r + 1)), rv 2 (some r), iv (nI j)] d_31_53 rfl rfl (nI_1 r) rfl rfl ?_
            refine r_goto 2 d_31_56 (by decide) ?_
            exact ih (r + 1) h2 P2 _ _ (by omega) c2 p2 i2 ok2 he2 cf2
          | succ m ihm =>
            intro j h2 P2 hj c2 p2 i2 ok2 he2 cf2
            obtain ⟨o, ho⟩ := at_lt (l := itm S r) (i := j) (by omega)
            have hoa := mem_it hr12 ho
            have hj8 : j < 8 := by omega
            rw [fm_drop ho, List.append_assoc, finds_app] at he2
            refine r_aload_n 18 d_31_17 rfl rfl ?_
            refine r_getI 21 2 6 (nI 0) d_31_18 rfl fk_0_143 rfl ((p2.1 r hr12).1.trans (by rw [hc]; rfl)) ?_
            refine r_if_ne 53 24 d_31_21 (by decide) rfl (fun c_21 => absurd c_21 (fun z => z rfl)) (fun c_21 => ?_)
            refine r_iload_n 25 d_31_24 rfl rfl ?_
            refine r_aload_n 26 d_31_25 rfl rfl ?_
            refine r_getI 29 2 2 (nI (itm S r).length) d_31_26 rfl fk_0_153 rfl (c2.ic hr12) ?_
            refine r_icmp_ge 53 32 d_31_29 (by decide) rfl (fun c_29 => absurd c_29 (nI_ge (by omega) (by omega))) (fun c_29 => ?_)
            refine r_aload_n 33 d_31_32 rfl rfl ?_
            refine r_aload_n 34 d_31_33 rfl rfl ?_
            refine r_getR 37 2 1 4 (some r) d_31_34 rfl fk_0_156 rfl (by decide) (ST.itm c2.st hr12) ?_
            refine r_iload_n 38 d_31_37 rfl rfl ?_
            refine r_aald 39 4 1 j (some o) d_31_38 rfl (Or.inl ⟨rfl, rfl⟩) rfl (ST.lit c2.st hr12 hj8) (c2.it hr12 ho) ?_
            refine r_callV (k1 := 0) (n1 := 0) (k := 0) (n := 0) 42 33 0 [rv 1 (some o)] d_31_39 rfl mk_33 lk_0_166 mv_33 rfl rfl rfl rfl rfl _ (c_planFields c2 b cl sm p2 i2 ok2 hoa) ?_
            intro r_39 h_39 q_39
            obtain ⟨q1, q2, q3, q4⟩ := q_39
            subst q1
            show TT 31 42 [rv 0 (some 0), iv (nI r), rv 2 (some r), iv (nI j)] [iv (bI (po (finds S col P2 (fd S o))))] h_39 _ _ _
            refine r_if_ne 47 45 d_31_42 (by decide) rfl (fun c_42 => ?_) (fun c_42 => ?_)
            · skip
              refine r_iinc 50 (nI (j + 1)) [rv 0 (some 0), iv (nI r), rv 2 (some r), iv (nI (j + 1))] d_31_47 rfl rfl (nI_1 j) rfl rfl ?_
              refine r_goto 17 d_31_50 (by decide) ?_
              exact ihm (j + 1) h_39 _ (by omega) q2 q3 (finds_PI sm _ P2 i2 (fun o' ho' => cl.2.1 o o' hoa ho')) (bI_1 c_42) he2 (cf2.tr q4)
            · skip
              refine r_iconst 46 (nI 0) d_31_45 rfl (by decide) ?_
              refine r_zreturn d_31_46 rfl rfl ?_
              have eb := bI_0 c_42
              rw [he2, finds_bad eb]
              exact ⟨by rw [eb]; rfl, q2, q3, cf2.tr q4⟩
        refine r_iload_n 3 d_31_2 rfl rfl ?_
        refine r_bipush 5 (nI 12) d_31_3 rfl (by decide) ?_
        refine r_icmp_ge 59 8 d_31_5 (by decide) rfl (fun c_5 => absurd c_5 (nI_ge hr12 (by decide))) (fun c_5 => ?_)
        refine r_aload_n 9 d_31_8 rfl rfl ?_
        refine r_getR 12 0 0 5 (some 0) d_31_9 rfl fk_0_11 rfl (by decide) (ST.reg c1.st) ?_
        refine r_iload_n 13 d_31_12 rfl rfl ?_
        refine r_aald 14 5 2 r (some r) d_31_13 rfl (Or.inr ⟨rfl, rfl⟩) rfl (ST.l50 c1.st hr12) (ST.rat c1.st hr12) ?_
        refine r_astore_n 15 [rv 0 (some 0), iv (nI r), rv 2 (some r), un] d_31_14 rfl rfl rfl ?_
        refine r_iconst 16 (nI 0) d_31_15 rfl (by decide) ?_
        refine r_istore_n 17 [rv 0 (some 0), iv (nI r), rv 2 (some r), iv (nI 0)] d_31_16 rfl rfl rfl ?_
        exact inner _ 0 h1 P1 (Nat.zero_add _) c1 p1 i1 ok1 e1 cf
  refine r_iconst 1 (nI 0) d_31_0 rfl (by decide) ?_
  refine r_istore_n 2 [rv 0 (some 0), iv (nI 0), un, un] d_31_1 rfl rfl rfl ?_
  exact loop 12 0 h P un un rfl c p i ok rfl (CF.rf h)
def bfsP (S : SS) (col : Nat → Bool) : Nat → Nat → PP → PP
  | 0, _, P => P
  | n + 1, i, P => match (pf P)[i]? with
    | none => P
    | some o => bfsP S col n (i + 1) (finds S col P (fd S o))
theorem bfsP_bad {S : SS} {col : Nat → Bool} {P : PP} (h : po P = false) : ∀ n i, bfsP S col n i P = P
  | 0, _ => rfl
  | n + 1, i => by
    unfold bfsP
    split
    · rfl
    · rw [finds_bad h]; exact bfsP_bad h n (i + 1)
theorem PI_len {S : SS} {col : Nat → Bool} {P : PP} (b : BD S) (i : PI S col P) : (pf P).length ≤ 96 := Nat.le_trans (nodup_len _ _ i.1 (fun x hx => (i.2.1 x hx).1)) (all_len b)
theorem find1_len (S : SS) (col : Nat → Bool) (P : PP) (x : Option Nat) : (pf P).length ≤ (pf (find1 S col P x)).length := by
  cases x with
  | none => exact Nat.le_refl _
  | some o =>
    by_cases hc : (po P && col (hm S o) && (pt P o).isNone) = true
    · have e1 : find1 S col P (some o) = (match (tgF S P (knd S o) (wd S o)).1 with
        | none => bad P
        | some t => plc (tgF S P (knd S o) (wd S o)).2 o t (wd S o)) := if_pos hc
      rw [e1]
      cases ht : (tgF S P (knd S o) (wd S o)).1 with
      | none => exact Nat.le_refl _
      | some t =>
        show _ ≤ (pf (tgF S P (knd S o) (wd S o)).2 ++ [o]).length
        rw [(tgF_keep S P (knd S o) (wd S o)).1, List.length_append]
        omega
    · have e1 : find1 S col P (some o) = P := if_neg hc
      rw [e1]; exact Nat.le_refl _
theorem finds_len {S : SS} {col : Nat → Bool} : ∀ (l : List (Option Nat)) (P : PP), (pf P).length ≤ (pf (finds S col P l)).length
  | [], _ => Nat.le_refl _
  | x :: l, P => Nat.le_trans (find1_len S col P x) (finds_len l _)
theorem c_planFound {h : AH} {S : SS} {col : Nat → Bool} {P : PP} (c : RC h S) (b : BD S) (cl : CL S) (sm : SMc S col) (p : RP h S col P) (i : PI S col P) (ok : po P = true) : TT 32 0 [rv 0 (some 0), un] [] h 0 0 (fun x h' => x = some (iv (bI (po (bfsP S col 97 0 P)))) ∧ RC h' S ∧ RP h' S col (bfsP S col 97 0 P) ∧ PI S col (bfsP S col 97 0 P) ∧ CF h h') := by
  have loop : ∀ n k h1 P1, k + n = 97 → RC h1 S → RP h1 S col P1 → PI S col P1 → po P1 = true → bfsP S col 97 0 P = bfsP S col n k P1 → k ≤ (pf P1).length → CF h h1 → TT 32 2 [rv 0 (some 0), iv (nI k)] [] h1 0 0 (fun x h' => x = some (iv (bI (po (bfsP S col 97 0 P)))) ∧ RC h' S ∧ RP h' S col (bfsP S col 97 0 P) ∧ PI S col (bfsP S col 97 0 P) ∧ CF h h') := by
    intro n
    induction n with
    | zero =>
      intro k h1 P1 hk c1 p1 i1 ok1 he hkl cf
      have := PI_len b i1
      omega
    | succ n ih =>
      intro k h1 P1 hk c1 p1 i1 ok1 he hkl cf
      have hl := PI_len b i1
      rcases Nat.lt_or_ge k (pf P1).length with hlt | hge
      · obtain ⟨o, ho⟩ := at_lt hlt
        have hoa := (i1.2.1 o (List.mem_of_getElem? ho)).1
        have hk96 : k < 96 := by omega
        have e2 : bfsP S col 97 0 P = bfsP S col n (k + 1) (finds S col P1 (fd S o)) := by
          rw [he]
          show (match (pf P1)[k]? with
            | none => P1
            | some o => bfsP S col n (k + 1) (finds S col P1 (fd S o))) = _
          rw [ho]
        have i2 := finds_PI sm (fd S o) P1 i1 (fun o' ho' => cl.2.1 o o' hoa ho')
        have hgrow := finds_len (S := S) (col := col) (fd S o) P1
        refine r_iload_n 3 d_32_2 rfl rfl ?_
        refine r_aload_n 4 d_32_3 rfl rfl ?_
        refine r_getI 7 0 3 (nI (pf P1).length) d_32_4 rfl fk_0_140 rfl p1.2.2.2.1 ?_
        refine r_icmp_ge 37 10 d_32_7 (by decide) rfl (fun c_7 => absurd c_7 (nI_ge hlt (by omega))) (fun c_7 => ?_)
        refine r_iload_n 11 d_32_10 rfl rfl ?_
        refine r_bipush 13 (nI 96) d_32_11 rfl (by decide) ?_
        refine r_icmp_ge 37 16 d_32_13 (by decide) rfl (fun c_13 => absurd c_13 (nI_ge hk96 (by decide))) (fun c_13 => ?_)
        refine r_aload_n 17 d_32_16 rfl rfl ?_
        refine r_aload_n 18 d_32_17 rfl rfl ?_
        refine r_getR 21 0 2 4 (some 13) d_32_18 rfl fk_0_24 rfl (by decide) (ST.fnd c1.st) ?_
        refine r_iload_n 22 d_32_21 rfl rfl ?_
        refine r_aald 23 4 1 k (some o) d_32_22 rfl (Or.inl ⟨rfl, rfl⟩) rfl (ST.lfn c1.st hk96) (p1.2.2.2.2 k o ho) ?_
        refine r_callV (k1 := 0) (n1 := 0) (k := 0) (n := 0) 26 33 0 [rv 1 (some o)] d_32_23 rfl mk_33 lk_0_166 mv_33 rfl rfl rfl rfl rfl _ (c_planFields c1 b cl sm p1 i1 ok1 hoa) ?_
        intro r_23 h_23 q_23
        obtain ⟨q1, q2, q3, q4⟩ := q_23
        subst q1
        show TT 32 26 [rv 0 (some 0), iv (nI k)] [iv (bI (po (finds S col P1 (fd S o))))] h_23 _ _ _
        refine r_if_ne 31 29 d_32_26 (by decide) rfl (fun c_26 => ?_) (fun c_26 => ?_)
        · skip
          refine r_iinc 34 (nI (k + 1)) [rv 0 (some 0), iv (nI (k + 1))] d_32_31 rfl rfl (nI_1 k) rfl rfl ?_
          refine r_goto 2 d_32_34 (by decide) ?_
          exact ih (k + 1) h_23 _ (by omega) q2 q3 i2 (bI_1 c_26) e2 (by omega) (cf.tr q4)
        · skip
          refine r_iconst 30 (nI 0) d_32_29 rfl (by decide) ?_
          refine r_zreturn d_32_30 rfl rfl ?_
          have eb := bI_0 c_26
          rw [e2, bfsP_bad eb]
          exact ⟨by rw [eb]; rfl, q2, q3, i2, cf.tr q4⟩
      · have e1 : bfsP S col 97 0 P = P1 := by
          rw [he]
          show (match (pf P1)[k]? with
            | none => P1
            | some o => bfsP S col n (k + 1) (finds S col P1 (fd S o))) = _
          rw [List.getElem?_eq_none hge]
        rw [e1]
        refine r_iload_n 3 d_32_2 rfl rfl ?_
        refine r_aload_n 4 d_32_3 rfl rfl ?_
        refine r_getI 7 0 3 (nI (pf P1).length) d_32_4 rfl fk_0_140 rfl p1.2.2.2.1 ?_
        refine r_icmp_ge 37 10 d_32_7 (by decide) rfl (fun c_7 => ?_) (fun c_7 => absurd (nI_le (by omega) (by omega)) c_7)
        refine r_iconst 38 (nI 1) d_32_37 rfl (by decide) ?_
        refine r_zreturn d_32_38 rfl rfl ?_
        exact ⟨by rw [ok1]; rfl, c1, p1, i1, cf⟩
  refine r_iconst 1 (nI 0) d_32_0 rfl (by decide) ?_
  refine r_istore_n 2 [rv 0 (some 0), iv (nI 0)] d_32_1 rfl rfl rfl ?_
  exact loop 97 0 h P rfl c p i ok rfl (Nat.zero_le _) (CF.rf h)
