/-! contracts of the class: the plan of a collection that copies -/
/-- objects found, their targets, kinds and words planned, last targets by kind, whether it goes -/
abbrev PP : Type := List Nat × (Nat → Option Nat) × (Nat → Nat) × (Nat → Nat) × (Nat → Option Nat) × Bool
def pf (P : PP) : List Nat := P.1
def pt (P : PP) : Nat → Option Nat := P.2.1
def pk (P : PP) : Nat → Nat := P.2.2.1
def pu (P : PP) : Nat → Nat := P.2.2.2.1
def pl (P : PP) : Nat → Option Nat := P.2.2.2.2.1
def po (P : PP) : Bool := P.2.2.2.2.2
def P0 : PP := ([], fun _ => none, fun _ => 0, fun _ => 0, fun _ => none, true)
def RP (h : AH) (S : SS) (col : Nat → Bool) (P : PP) : Prop := (∀ r, r < 12 → hI h 2 r 6 = bI (col r) ∧ hI h 2 r 7 = nI (pk P r) ∧ hI h 2 r 8 = nI (pu P r)) ∧ (∀ o, o ∈ all S → hR h 1 o 6 = pt P o) ∧ (hR h 5 1 2 = pl P 2 ∧ hR h 5 1 3 = pl P 3) ∧ FD h (pf P)
theorem rc_51 {h : AH} {S : SS} (c : RC h S) (k : Nat) (v : Option Nat) : RC (sR h 5 1 k v) S := by
  refine ⟨⟨c.st.1, c.st.2.1, fun r hr => ⟨?_, c.st.idx hr, c.st.itm hr, (c.st.2.2.1 r hr).2.2.2⟩, c.st.2.2.2⟩, c.2⟩
  exact (hR_ne (by decide) _).trans (c.st.rat hr)
theorem rc_2 {h : AH} {S : SS} (c : RC h S) (r : Nat) (v6 v7 v8 : Int32) : RC (sI (sI (sI h 2 r 6 v6) 2 r 7 v7) 2 r 8 v8) S := c
theorem rc_16 {h : AH} {S : SS} (c : RC h S) (o : Nat) (v : Option Nat) : RC (sR h 1 o 6 v) S := c
def colF (S : SS) (ch : Nat → Bool) (r : Nat) : Bool := isk S 1 r || isk S 2 r || ch r
theorem keepN {h : AH} {o o' : Nat} (e : hR h 1 o' 6 = none) : hR (sR h 1 o 6 none) 1 o' 6 = none := by
  rw [hR_sR]
  split
  · rfl
  · exact e
theorem c_beginPlan {h : AH} {S : SS} {ch : Nat → Bool} {B : Int32} (c : RC h S) (b : BD S) (hB : ∀ r, r < 12 → ((B >>> (nI r &&& 31)) &&& nI 1 = nI 1 ↔ ch r = true)) : TT 29 0 [rv 0 (some 0), iv B, un, un, un] [] h 0 0 (fun x h' => x = none ∧ RC h' S ∧ RP h' S (colF S ch) P0 ∧ CF h h') := by
  have loop : ∀ n r h1 v w, r + n = 12 → RC h1 S → hI h1 0 0 3 = nI 0 → (hR h1 5 1 2 = none ∧ hR h1 5 1 3 = none) → (∀ r', r' < r → hI h1 2 r' 6 = bI (colF S ch r') ∧ hI h1 2 r' 7 = nI 0 ∧ hI h1 2 r' 8 = nI 0 ∧ ∀ o, o ∈ itm S r' → hR h1 1 o 6 = none) → CF h h1 → TT 29 21 [rv 0 (some 0), iv B, iv (nI r), v, w] [] h1 0 0 (fun x h' => x = none ∧ RC h' S ∧ RP h' S (colF S ch) P0 ∧ CF h h') := by
    intro n
    induction n with
    | zero =>
      intro r h1 v w hr c1 hf hlt hz cf
      obtain rfl : r = 12 := by omega
      refine TT.forget 3 (ls' := [rv 0 (some 0), iv B, iv (nI 12), un, w]) rfl ?_
      refine TT.forget 4 (ls' := [rv 0 (some 0), iv B, iv (nI 12), un, un]) rfl ?_
      refine r_iload_n 22 d_29_21 rfl rfl ?_
      refine r_bipush 24 (nI 12) d_29_22 rfl (by decide) ?_
      refine r_icmp_ge 113 27 d_29_24 (by decide) rfl (fun c_24 => ?_) (fun c_24 => absurd (nI_le (Nat.le_refl _) (by decide)) c_24)
      refine r_return d_29_113 rfl ?_
      refine ⟨rfl, c1, ⟨fun r hr => ⟨(hz r hr).1, (hz r hr).2.1, (hz r hr).2.2.1⟩, fun o ho => ?_, hlt, hf, fun i o hi => by cases hi⟩, cf⟩
      obtain ⟨r, h1, h2⟩ := mem_all.mp ho
      exact (hz r h1).2.2.2 o h2
    | succ n ih =>
      intro r h1 v w hr c1 hf hlt hz cf
      have hr12 : r < 12 := by omega
      have hl8 := b.it hr12
      have inner : ∀ m i h2, i + m = (itm S r).length → RC h2 S → hI h2 0 0 3 = nI 0 → (hR h2 5 1 2 = none ∧ hR h2 5 1 3 = none) → (∀ r', r' < r → hI h2 2 r' 6 = bI (colF S ch r') ∧ hI h2 2 r' 7 = nI 0 ∧ hI h2 2 r' 8 = nI 0 ∧ ∀ o, o ∈ itm S r' → hR h2 1 o 6 = none) → (hI h2 2 r 6 = bI (colF S ch r) ∧ hI h2 2 r 7 = nI 0 ∧ hI h2 2 r 8 = nI 0) → (∀ j o, j < i → (itm S r)[j]? = some o → hR h2 1 o 6 = none) → CF h h2 → TT 29 81 [rv 0 (some 0), iv B, iv (nI r), rv 2 (some r), iv (nI i)] [] h2 0 0 (fun x h' => x = none ∧ RC h' S ∧ RP h' S (colF S ch) P0 ∧ CF h h') := by
        intro m
        induction m with
        | zero =>
          intro i h2 hi c2 hf hlt hz hzr hzi cf
          refine r_iload 83 d_29_81 rfl rfl ?_
          refine r_aload_n 84 d_29_83 rfl rfl ?_
          refine r_getI 87 2 2 (nI (itm S r).length) d_29_84 rfl fk_0_153 rfl (c2.ic hr12) ?_
          refine r_icmp_ge 107 90 d_29_87 (by decide) rfl (fun c_87 => ?_) (fun c_87 => absurd (nI_le (by omega) (by omega)) c_87)
          refine r_iinc 110 (nI (r + 1)) [rv 0 (some 0), iv B, iv (nI (r + 1)), rv 2 (some r), iv (nI i)] d_29_107 rfl rfl (nI_1 r) rfl rfl ?_
          refine r_goto 21 d_29_110 (by decide) ?_
          refine ih (r + 1) h2 _ _ (by omega) c2 hf hlt (fun r' hr' => ?_) cf
          rcases Nat.lt_or_ge r' r with q | q
          · exact hz r' q
          · obtain rfl : r' = r := by omega
            refine ⟨hzr.1, hzr.2.1, hzr.2.2, fun o ho => ?_⟩
            obtain ⟨j, hj⟩ := List.getElem?_of_mem ho
            exact hzi j o (by have := (List.getElem?_eq_some_iff.mp hj).1; omega) hj
        | succ m ihm =>
          intro i h2 hi c2 hf hlt hz hzr hzi cf
          obtain ⟨o, ho⟩ := at_lt (l := itm S r) (i := i) (by omega)
          have hi8 : i < 8 := by omega
          refine r_iload 83 d_29_81 rfl rfl ?_
          refine r_aload_n 84 d_29_83 rfl rfl ?_
          refine r_getI 87 2 2 (nI (itm S r).length) d_29_84 rfl fk_0_153 rfl (c2.ic hr12) ?_
          refine r_icmp_ge 107 90 d_29_87 (by decide) rfl (fun c_87 => absurd c_87 (nI_ge (by omega) (by omega))) (fun c_87 => ?_)
          refine r_aload_n 91 d_29_90 rfl rfl ?_
          refine r_getR 94 2 1 4 (some r) d_29_91 rfl fk_0_156 rfl (by decide) (ST.itm c2.st hr12) ?_
          refine r_iload 96 d_29_94 rfl rfl ?_
          refine r_aald 97 4 1 i (some o) d_29_96 rfl (Or.inl ⟨rfl, rfl⟩) rfl (ST.lit c2.st hr12 hi8) (c2.it hr12 ho) ?_
          refine r_null 98 2 d_29_97 rfl ?_
          refine r_putR 101 1 6 2 d_29_98 rfl fk_0_159 (Or.inl rfl) rfl (by decide) (fun o => by cases o <;> exact ⟨rfl, rfl⟩) ?_
          refine r_iinc 104 (nI (i + 1)) [rv 0 (some 0), iv B, iv (nI r), rv 2 (some r), iv (nI (i + 1))] d_29_101 rfl rfl (nI_1 i) rfl rfl ?_
          refine r_goto 81 d_29_104 (by decide) ?_
          refine ihm (i + 1) _ (by omega) (rc_16 c2 o none) hf hlt (fun r' hr' => ⟨(hz r' hr').1, (hz r' hr').2.1, (hz r' hr').2.2.1, fun o' ho' => keepN ((hz r' hr').2.2.2 o' ho')⟩) hzr (fun j o' hj ho' => ?_) (CF_sR cf rfl)
          rcases Nat.lt_or_ge j i with q | q
          · exact keepN (hzi j o' q ho')
          · obtain rfl : j = i := by omega
            cases ho.symm.trans ho'
            exact hR_at
      have body : ∀ x : Int32, x = bI (colF S ch r) → narrow .boolean (.int x) = .int x → fits .boolean (.int x) = true → TT 29 65 [rv 0 (some 0), iv B, iv (nI r), rv 2 (some r), un] [iv x, rv 2 (some r)] h1 0 0 (fun x h' => x = none ∧ RC h' S ∧ RP h' S (colF S ch) P0 ∧ CF h h') := by
        intro x hx hn1 hn2
        refine r_putI 68 2 6 d_29_65 rfl fk_0_143 (Or.inl rfl) rfl hn1 hn2 ?_
        refine r_aload_n 69 d_29_68 rfl rfl ?_
        refine r_iconst 70 (nI 0) d_29_69 rfl (by decide) ?_
        refine r_putI 73 2 7 d_29_70 rfl fk_0_147 (Or.inl rfl) rfl rfl rfl ?_
        refine r_aload_n 74 d_29_73 rfl rfl ?_
        refine r_iconst 75 (nI 0) d_29_74 rfl (by decide) ?_
        refine r_putI 78 2 8 d_29_75 rfl fk_0_150 (Or.inl rfl) rfl rfl rfl ?_
        refine r_iconst 79 (nI 0) d_29_78 rfl (by decide) ?_
        refine r_istore 81 [rv 0 (some 0), iv B, iv (nI r), rv 2 (some r), iv (nI 0)] d_29_79 rfl rfl rfl ?_
        refine inner _ 0 _ (Nat.zero_add _) (rc_2 c1 r x (nI 0) (nI 0)) hf hlt (fun r' hr' => ?_) ⟨(hI_at (h := h1)).trans hx, hI_at (h := h1), hI_at (h := h1)⟩ (fun j o hj => absurd hj (Nat.not_lt_zero j)) (CF_sI (CF_sI (CF_sI cf rfl) rfl) rfl)
        have hne : r' ≠ r := by omega
        exact ⟨(hI_ne (h := h1) (k := 6) (v := x) hne 6).trans (hz r' hr').1, (hI_ne (h := h1) (k := 7) (v := nI 0) hne 7).trans (hz r' hr').2.1, (hI_ne (h := h1) (k := 8) (v := nI 0) hne 8).trans (hz r' hr').2.2.1, (hz r' hr').2.2.2⟩
      refine TT.forget 3 (ls' := [rv 0 (some 0), iv B, iv (nI r), un, w]) rfl ?_
      refine TT.forget 4 (ls' := [rv 0 (some 0), iv B, iv (nI r), un, un]) rfl ?_
      refine r_iload_n 22 d_29_21 rfl rfl ?_
      refine r_bipush 24 (nI 12) d_29_22 rfl (by decide) ?_
      refine r_icmp_ge 113 27 d_29_24 (by decide) rfl (fun c_24 => absurd c_24 (nI_ge hr12 (by decide))) (fun c_24 => ?_)
      refine r_aload_n 28 d_29_27 rfl rfl ?_
      refine r_getR 31 0 0 5 (some 0) d_29_28 rfl fk_0_11 rfl (by decide) (ST.reg c1.st) ?_
      refine r_iload_n 32 d_29_31 rfl rfl ?_
      refine r_aald 33 5 2 r (some r) d_29_32 rfl (Or.inr ⟨rfl, rfl⟩) rfl (ST.l50 c1.st hr12) (ST.rat c1.st hr12) ?_
      refine r_astore_n 34 [rv 0 (some 0), iv B, iv (nI r), rv 2 (some r), un] d_29_33 rfl rfl rfl ?_
      refine r_aload_n 35 d_29_34 rfl rfl ?_
      refine r_aload_n 36 d_29_35 rfl rfl ?_
      refine r_getI 39 2 3 (nI (kd S r)) d_29_36 rfl fk_0_93 rfl (c1.kd hr12) ?_
      refine r_iconst 40 (nI 1) d_29_39 rfl (by decide) ?_
      refine r_icmp_eq 60 43 d_29_40 (by decide) rfl (fun c_40 => ?_) (fun c_40 => ?_)
      · skip
        refine r_iconst 61 (nI 1) d_29_60 rfl (by decide) ?_
        refine r_goto 65 d_29_61 (by decide) ?_
        first
        | exact body _ (by unfold colF; rw [isk_t b hr12 (by decide) c_40]; rfl) rfl rfl
        | exact body _ (by unfold colF; rw [isk_t b hr12 (by decide) c_48, Bool.or_true]; rfl) rfl rfl
        | exact body _ (by unfold colF; rw [(hB r hr12).mp c_57, Bool.or_true]; rfl) rfl rfl
        | exact body _ (by unfold colF; rw [isk_f c_40, isk_f c_48, Bool.eq_false_iff.mpr (fun z => c_57 ((hB r hr12).mpr z))]; rfl) rfl rfl
      · skip
        refine r_aload_n 44 d_29_43 rfl rfl ?_
        refine r_getI 47 2 3 (nI (kd S r)) d_29_44 rfl fk_0_93 rfl (c1.kd hr12) ?_
        refine r_iconst 48 (nI 2) d_29_47 rfl (by decide) ?_
        refine r_icmp_eq 60 51 d_29_48 (by decide) rfl (fun c_48 => ?_) (fun c_48 => ?_)
        · skip
          refine r_iconst 61 (nI 1) d_29_60 rfl (by decide) ?_
          refine r_goto 65 d_29_61 (by decide) ?_
          first
          | exact body _ (by unfold colF; rw [isk_t b hr12 (by decide) c_40]; rfl) rfl rfl
          | exact body _ (by unfold colF; rw [isk_t b hr12 (by decide) c_48, Bool.or_true]; rfl) rfl rfl
          | exact body _ (by unfold colF; rw [(hB r hr12).mp c_57, Bool.or_true]; rfl) rfl rfl
          | exact body _ (by unfold colF; rw [isk_f c_40, isk_f c_48, Bool.eq_false_iff.mpr (fun z => c_57 ((hB r hr12).mpr z))]; rfl) rfl rfl
        · skip
          refine r_iload_n 52 d_29_51 rfl rfl ?_
          refine r_iload_n 53 d_29_52 rfl rfl ?_
          refine r_ishr 54 (B >>> ((nI r) &&& 31)) d_29_53 rfl rfl ?_
          refine r_iconst 55 (nI 1) d_29_54 rfl (by decide) ?_
          refine r_iand 56 ((B >>> ((nI r) &&& 31)) &&& (nI 1)) d_29_55 rfl rfl ?_
          refine r_iconst 57 (nI 1) d_29_56 rfl (by decide) ?_
          refine r_icmp_ne 64 60 d_29_57 (by decide) rfl (fun c_57 => ?_) (fun c_57 => ?_)
          · skip
            refine r_iconst 65 (nI 0) d_29_64 rfl (by decide) ?_
            first
            | exact body _ (by unfold colF; rw [isk_t b hr12 (by decide) c_40]; rfl) rfl rfl
            | exact body _ (by unfold colF; rw [isk_t b hr12 (by decide) c_48, Bool.or_true]; rfl) rfl rfl
            | exact body _ (by unfold colF; rw [(hB r hr12).mp c_57, Bool.or_true]; rfl) rfl rfl
            | exact body _ (by unfold colF; rw [isk_f c_40, isk_f c_48, Bool.eq_false_iff.mpr (fun z => c_57 ((hB r hr12).mpr z))]; rfl) rfl rfl
          · skip
            refine r_iconst 61 (nI 1) d_29_60 rfl (by decide) ?_
            refine r_goto 65 d_29_61 (by decide) ?_
            first
            | exact body _ (by unfold colF; rw [isk_t b hr12 (by decide) c_40]; rfl) rfl rfl
            | exact body _ (by unfold colF; rw [isk_t b hr12 (by decide) c_48, Bool.or_true]; rfl) rfl rfl
            | exact body _ (by unfold colF; rw [(hB r hr12).mp c_57, Bool.or_true]; rfl) rfl rfl
            | exact body _ (by unfold colF; rw [isk_f c_40, isk_f c_48, Bool.eq_false_iff.mpr (fun z => c_57 ((hB r hr12).mpr z))]; rfl) rfl rfl
  refine r_aload_n 1 d_29_0 rfl rfl ?_
  refine r_iconst 2 (nI 0) d_29_1 rfl (by decide) ?_
  refine r_putI 5 0 3 d_29_2 rfl fk_0_140 (Or.inl rfl) rfl rfl rfl ?_
  refine r_aload_n 6 d_29_5 rfl rfl ?_
  refine r_getR 9 0 4 5 (some 1) d_29_6 rfl fk_0_27 rfl (by decide) (ST.ltg (ST_sI c.st rfl)) ?_
  refine r_iconst 10 (nI 2) d_29_9 rfl (by decide) ?_
  refine r_null 11 2 d_29_10 rfl ?_
  refine r_aast 12 5 2 2 d_29_11 rfl (Or.inr ⟨rfl, rfl⟩) rfl (ST.l51 (ST_sI c.st rfl) (by decide)) ?_
  refine r_aload_n 13 d_29_12 rfl rfl ?_
  refine r_getR 16 0 4 5 (some 1) d_29_13 rfl fk_0_27 rfl (by decide) (ST.ltg (ST_sR (ST_sI c.st rfl) rfl)) ?_
  refine r_iconst 17 (nI 3) d_29_16 rfl (by decide) ?_
  refine r_null 18 2 d_29_17 rfl ?_
  refine r_aast 19 5 2 3 d_29_18 rfl (Or.inr ⟨rfl, rfl⟩) rfl (ST.l51 (ST_sR (ST_sI c.st rfl) rfl) (by decide)) ?_
  refine r_iconst 20 (nI 0) d_29_19 rfl (by decide) ?_
  refine r_istore_n 21 [rv 0 (some 0), iv B, iv (nI 0), un, un] d_29_20 rfl rfl rfl ?_
  exact loop 12 0 _ un un rfl (rc_51 (rc_51 (rc_03 c _) _ _) _ _) rfl ⟨rfl, rfl⟩ (fun r' hr' => absurd hr' (Nat.not_lt_zero r')) (CF_sR (CF_sR (CF_sI (CF.rf h) rfl) rfl) rfl)
