/-! contracts of the class: planning one object -/
def frP (S : SS) (P : PP) (r : Nat) : Bool := isk S 0 r && decide (pk P r = 0)
def tgF (S : SS) (P : PP) (k w : Nat) : Option Nat × PP := match (pl P k).filter (fun t => decide (pu P t + w ≤ 16)) with
  | some t => (some t, P)
  | none => match fst (frP S P) 12 0 with
    | none => (none, P)
    | some r => (some r, (pf P, pt P, va_up (pk P) r k, pu P, va_up (pl P) k (some r), po P))
def knd (S : SS) (o : Nat) : Nat := if kd S (hm S o) = 1 then 2 else 3
def plc (P : PP) (o t w : Nat) : PP := (pf P ++ [o], va_up (pt P) o (some t), pk P, va_up (pu P) t (pu P t + w), pl P, po P)
def bad (P : PP) : PP := (pf P, pt P, pk P, pu P, pl P, false)
def find1 (S : SS) (col : Nat → Bool) (P : PP) (x : Option Nat) : PP := match x with
  | none => P
  | some o => if (po P && col (hm S o) && (pt P o).isNone) = true then (match (tgF S P (knd S o) (wd S o)).1 with
    | none => bad P
    | some t => plc (tgF S P (knd S o) (wd S o)).2 o t (wd S o)) else P
/-- words planned into a region -/
def swt (S : SS) (P : PP) (l : List Nat) (t : Nat) : Nat := sw S (l.filter (fun o => decide (pt P o = some t)))
def PI (S : SS) (col : Nat → Bool) (P : PP) : Prop := (pf P).Nodup ∧ (∀ o ∈ pf P, o ∈ all S ∧ col (hm S o) = true) ∧ (∀ o, o ∈ pf P ↔ (pt P o).isSome = true) ∧ (∀ o t, pt P o = some t → t < 12 ∧ pk P t ≠ 0) ∧ (∀ r, r < 12 → pk P r ≤ 3 ∧ (pk P r ≠ 0 → kd S r = 0) ∧ (pk P r = 0 → pu P r = 0) ∧ pu P r = swt S P (pf P) r ∧ pu P r ≤ 16) ∧ (∀ k, k = 2 ∨ k = 3 → ∀ t, pl P k = some t → t < 12 ∧ pk P t = k)
theorem c_targetFor {h : AH} {S : SS} {col : Nat → Bool} {P : PP} (c : RC h S) (b : BD S) (p : RP h S col P) (i : PI S col P) {k w : Nat} (hk : k = 2 ∨ k = 3) (hw : w ≤ 100) : TT 35 0 [rv 0 (some 0), iv (nI k), iv (nI w), un, un, un] [] h 0 0 (fun x h' => x = some (rv 2 (tgF S P k w).1) ∧ RC h' S ∧ RP h' S col (tgF S P k w).2 ∧ CF h h') := by
  have hk4 : k < 4 := by omega
  have hlt : hR h 5 1 k = pl P k := by
    rcases hk with rfl | rfl
    · exact p.2.2.1.1
    · exact p.2.2.1.2
  have look : (pl P k).filter (fun t => decide (pu P t + w ≤ 16)) = none → ∀ v, TT 35 24 [rv 0 (some 0), iv (nI k), iv (nI w), v, un, un] [] h 0 0 (fun x h' => x = some (rv 2 (tgF S P k w).1) ∧ RC h' S ∧ RP h' S col (tgF S P k w).2 ∧ CF h h') := by
    intro hno v
    have loop : ∀ n r u, r + n = 12 → fst (frP S P) 12 0 = fst (frP S P) n r → TT 35 27 [rv 0 (some 0), iv (nI k), iv (nI w), un, iv (nI r), u] [] h 0 0 (fun x h' => x = some (rv 2 (tgF S P k w).1) ∧ RC h' S ∧ RP h' S col (tgF S P k w).2 ∧ CF h h') := by
      intro n
      induction n with
      | zero =>
        intro r u hr he
        obtain rfl : r = 12 := by omega
        refine TT.forget 5 (ls' := [rv 0 (some 0), iv (nI k), iv (nI w), un, iv (nI 12), un]) rfl ?_
        have e : tgF S P k w = (none, P) := by unfold tgF; simp only [hno, he]; rfl
        rw [e]
        refine r_iload 29 d_35_27 rfl rfl ?_
        refine r_bipush 31 (nI 12) d_35_29 rfl (by decide) ?_
        refine r_icmp_ge 82 34 d_35_31 (by decide) rfl (fun c_31 => ?_) (fun c_31 => absurd (nI_le (Nat.le_refl _) (by decide)) c_31)
        refine r_null 83 2 d_35_82 rfl ?_
        refine r_areturn d_35_83 rfl ?_
        exact ⟨rfl, c, p, CF.rf h⟩
      | succ n ih =>
        intro r u hr he
        have hr12 : r < 12 := by omega
        have hpk := (i.2.2.2.2.1 r hr12).1
        refine TT.forget 5 (ls' := [rv 0 (some 0), iv (nI k), iv (nI w), un, iv (nI r), un]) rfl ?_
        refine r_iload 29 d_35_27 rfl rfl ?_
        refine r_bipush 31 (nI 12) d_35_29 rfl (by decide) ?_
        refine r_icmp_ge 82 34 d_35_31 (by decide) rfl (fun c_31 => absurd c_31 (nI_ge hr12 (by decide))) (fun c_31 => ?_)
        refine r_aload_n 35 d_35_34 rfl rfl ?_
        refine r_getR 38 0 0 5 (some 0) d_35_35 rfl fk_0_11 rfl (by decide) (ST.reg c.st) ?_
        refine r_iload 40 d_35_38 rfl rfl ?_
        refine r_aald 41 5 2 r (some r) d_35_40 rfl (Or.inr ⟨rfl, rfl⟩) rfl (ST.l50 c.st hr12) (ST.rat c.st hr12) ?_
        refine r_astore 43 [rv 0 (some 0), iv (nI k), iv (nI w), un, iv (nI r), rv 2 (some r)] d_35_41 rfl rfl rfl ?_
        refine r_aload 45 d_35_43 rfl rfl ?_
        refine r_getI 48 2 3 (nI (kd S r)) d_35_45 rfl fk_0_93 rfl (c.kd hr12) ?_
        refine r_if_ne 76 51 d_35_48 (by decide) rfl (fun c_48 => ?_) (fun c_48 => ?_)
        · skip
          refine r_iinc 79 (nI (r + 1)) [rv 0 (some 0), iv (nI k), iv (nI w), un, iv (nI (r + 1)), rv 2 (some r)] d_35_76 rfl rfl (nI_1 r) rfl rfl ?_
          refine r_goto 27 d_35_79 (by decide) ?_
          refine ih (r + 1) _ (by omega) ?_
          rw [he, fst, if_neg]
          first | (unfold frP; rw [isk_f (k := 0) c_48]; exact Bool.false_ne_true) | (unfold frP; rw [decide_eq_false (fun z => c_56 (by rw [z]; rfl)), Bool.and_false]; exact Bool.false_ne_true)
        · skip
          refine r_aload 53 d_35_51 rfl rfl ?_
          refine r_getI 56 2 7 (nI (pk P r)) d_35_53 rfl fk_0_147 rfl (p.1 r hr12).2.1 ?_
          refine r_if_ne 76 59 d_35_56 (by decide) rfl (fun c_56 => ?_) (fun c_56 => ?_)
          · skip
            refine r_iinc 79 (nI (r + 1)) [rv 0 (some 0), iv (nI k), iv (nI w), un, iv (nI (r + 1)), rv 2 (some r)] d_35_76 rfl rfl (nI_1 r) rfl rfl ?_
            refine r_goto 27 d_35_79 (by decide) ?_
            refine ih (r + 1) _ (by omega) ?_
            rw [he, fst, if_neg]
            first | (unfold frP; rw [isk_f (k := 0) c_48]; exact Bool.false_ne_true) | (unfold frP; rw [decide_eq_false (fun z => c_56 (by rw [z]; rfl)), Bool.and_false]; exact Bool.false_ne_true)
          · skip
            refine r_aload 61 d_35_59 rfl rfl ?_
            refine r_iload_n 62 d_35_61 rfl rfl ?_
            refine r_putI 65 2 7 d_35_62 rfl fk_0_147 (Or.inl rfl) rfl rfl rfl ?_
            refine r_aload_n 66 d_35_65 rfl rfl ?_
            refine r_getR 69 0 4 5 (some 1) d_35_66 rfl fk_0_27 rfl (by decide) (ST.ltg (ST_sI c.st rfl)) ?_
            refine r_iload_n 70 d_35_69 rfl rfl ?_
            refine r_aload 72 d_35_70 rfl rfl ?_
            refine r_aast 73 5 2 k d_35_72 rfl (Or.inr ⟨rfl, rfl⟩) rfl (ST.l51 (ST_sI c.st rfl) hk4) ?_
            refine r_aload 75 d_35_73 rfl rfl ?_
            refine r_areturn d_35_75 rfl ?_
            have e0 : frP S P r = true := by
              unfold frP
              rw [isk_t (k := 0) b hr12 (by decide) c_48, decide_eq_true ((nI_eq (a := pk P r) (b := 0) (by omega) (by decide)).mp c_56)]
              rfl
            have e : tgF S P k w = (some r, (pf P, pt P, va_up (pk P) r k, pu P, va_up (pl P) k (some r), po P)) := by
              have he2 : fst (frP S P) 12 0 = some r := he.trans (if_pos e0)
              unfold tgF
              simp only [hno, he2]
            rw [e]
            refine ⟨rfl, rc_51 (S := S) c _ _, ⟨fun r' hr' => ⟨(p.1 r' hr').1, ?_, (p.1 r' hr').2.2⟩, p.2.1, ?_, p.2.2.2⟩, CF_sR (CF_sI (CF.rf h) rfl) rfl⟩
            · show (if 2 = 2 ∧ 7 = 7 ∧ r' = r then nI k else hI h 2 r' 7) = nI (va_up (pk P) r k r')
              rw [← nI_up (p.1 r' hr').2.1]
              simp
            · rcases hk with rfl | rfl
              · exact ⟨rfl, p.2.2.1.2⟩
              · exact ⟨p.2.2.1.1, rfl⟩
    refine TT.forget 3 (ls' := [rv 0 (some 0), iv (nI k), iv (nI w), un, un, un]) rfl ?_
    refine r_iconst 25 (nI 0) d_35_24 rfl (by decide) ?_
    refine r_istore 27 [rv 0 (some 0), iv (nI k), iv (nI w), un, iv (nI 0), un] d_35_25 rfl rfl rfl ?_
    exact loop 12 0 un rfl rfl
  cases hp : pl P k with
  | none =>
    refine r_aload_n 1 d_35_0 rfl rfl ?_
    refine r_getR 4 0 4 5 (some 1) d_35_1 rfl fk_0_27 rfl (by decide) (ST.ltg c.st) ?_
    refine r_iload_n 5 d_35_4 rfl rfl ?_
    refine r_aald 6 5 2 k none d_35_5 rfl (Or.inr ⟨rfl, rfl⟩) rfl (ST.l51 c.st hk4) (hlt.trans hp) ?_
    refine r_astore_n 7 [rv 0 (some 0), iv (nI k), iv (nI w), rv 2 none, un, un] d_35_6 rfl rfl rfl ?_
    refine r_aload_n 8 d_35_7 rfl rfl ?_
    refine r_ifnull 24 11 d_35_8 (by decide) rfl (fun c_8 => ?_) (fun i_8 c_8 => absurd c_8 (by simp))
    exact look (by rw [hp]; rfl) _
  | some t =>
    have ht := (i.2.2.2.2.2 k hk t hp).1
    have hpu := (i.2.2.2.2.1 t ht).2.2.2.2
    refine r_aload_n 1 d_35_0 rfl rfl ?_
    refine r_getR 4 0 4 5 (some 1) d_35_1 rfl fk_0_27 rfl (by decide) (ST.ltg c.st) ?_
    refine r_iload_n 5 d_35_4 rfl rfl ?_
    refine r_aald 6 5 2 k (some t) d_35_5 rfl (Or.inr ⟨rfl, rfl⟩) rfl (ST.l51 c.st hk4) (hlt.trans hp) ?_
    refine r_astore_n 7 [rv 0 (some 0), iv (nI k), iv (nI w), rv 2 (some t), un, un] d_35_6 rfl rfl rfl ?_
    refine r_aload_n 8 d_35_7 rfl rfl ?_
    refine r_ifnull 24 11 d_35_8 (by decide) rfl (fun c_8 => absurd c_8 (by simp)) (fun i_8 c_8 => ?_)
    refine r_aload_n 12 d_35_11 rfl rfl ?_
    refine r_getI 15 2 8 (nI (pu P t)) d_35_12 rfl fk_0_150 rfl (p.1 t ht).2.2 ?_
    refine r_iload_n 16 d_35_15 rfl rfl ?_
    refine r_iadd 17 (nI ((pu P t) + w)) d_35_16 rfl (nI_add (pu P t) w) ?_
    refine r_bipush 19 (nI 16) d_35_17 rfl (by decide) ?_
    refine r_icmp_gt 24 22 d_35_19 (by decide) rfl (fun c_19 => ?_) (fun c_19 => ?_)
    · skip
      have e0 := (nI_ltI (by decide) (by omega)).mp c_19
      exact look (by rw [hp]; simp only [Option.filter, decide_eq_false (Nat.not_le.mpr e0)]; rfl) _
    · skip
      refine r_aload_n 23 d_35_22 rfl rfl ?_
      refine r_areturn d_35_23 rfl ?_
      have e0 : pu P t + w ≤ 16 := Nat.not_lt.mp (fun z => c_19 ((nI_ltI (by decide) (by omega)).mpr z))
      have e : tgF S P k w = (some t, P) := by
        unfold tgF
        rw [hp]
        simp only [Option.filter, decide_eq_true e0, if_true]
      rw [e]
      exact ⟨rfl, c, p, CF.rf h⟩

theorem fst_lt {p : Nat → Bool} : ∀ n r j, fst p n r = some j → j < r + n
  | 0, _, _, h => by cases h
  | n + 1, r, j, h => by
    rw [fst] at h
    by_cases e : p r = true
    · rw [if_pos e] at h; cases h; omega
    · rw [if_neg e] at h; have := fst_lt n (r + 1) j h; omega
theorem tgF_lt {S : SS} {col : Nat → Bool} {P : PP} (i : PI S col P) {k w t : Nat} (hk : k = 2 ∨ k = 3) (h : (tgF S P k w).1 = some t) : t < 12 := by
  unfold tgF at h
  cases hf : (pl P k).filter (fun t => decide (pu P t + w ≤ 16)) with
  | some t' =>
    rw [hf] at h
    cases h
    exact (i.2.2.2.2.2 k hk t (Option.filter_eq_some_iff.mp hf).1).1
  | none =>
    rw [hf] at h
    cases hs : fst (frP S P) 12 0 with
    | none => rw [hs] at h; cases h
    | some r =>
      rw [hs] at h
      cases h
      exact fst_lt 12 0 t hs
theorem tgF_none {S : SS} {P : PP} {k w : Nat} (h : (tgF S P k w).1 = none) : (tgF S P k w).2 = P := by
  unfold tgF at h ⊢
  cases hf : (pl P k).filter (fun t => decide (pu P t + w ≤ 16)) with
  | some t' => rfl
  | none =>
    simp only
    cases hs : fst (frP S P) 12 0 with
    | none => rfl
    | some r => rw [hf, hs] at h; cases h
theorem tgF_keep (S : SS) (P : PP) (k w : Nat) : pf (tgF S P k w).2 = pf P ∧ po (tgF S P k w).2 = po P := by
  unfold tgF
  cases hf : (pl P k).filter (fun t => decide (pu P t + w ≤ 16)) with
  | some t' => exact ⟨rfl, rfl⟩
  | none =>
    simp only
    cases hs : fst (frP S P) 12 0 with
    | none => exact ⟨rfl, rfl⟩
    | some r => exact ⟨rfl, rfl⟩
theorem c_planCopy {h : AH} {S : SS} {col : Nat → Bool} {P : PP} (c : RC h S) (b : BD S) (cl : CL S) (p : RP h S col P) (i : PI S col P) (ok : po P = true) (o : Option Nat) (ho : ∀ x, o = some x → x ∈ all S) : TT 34 0 [rv 0 (some 0), rv 1 o, un] [] h 0 0 (fun x h' => x = some (iv (bI (po (find1 S col P o)))) ∧ RC h' S ∧ RP h' S col (find1 S col P o) ∧ CF h h') := by
  cases o with
  | none =>
    refine r_aload_n 1 d_34_0 rfl rfl ?_
    refine r_ifnull 21 4 d_34_1 (by decide) rfl (fun c_1 => ?_) (fun i_1 c_1 => absurd c_1 (by simp))
    refine r_iconst 22 (nI 1) d_34_21 rfl (by decide) ?_
    refine r_zreturn d_34_22 rfl rfl ?_
    exact ⟨by show _ = some (iv (bI (po P))); rw [ok]; rfl, c, p, CF.rf h⟩
  | some o =>
    have hm0 := ho o rfl
    have holt := c.mlt hm0
    have hr := hm_lt cl hm0
    have hkd := b.kd hr
    have hwd := b.wd holt
    have hhm := c.hm hm0
    by_cases hc : (po P && col (hm S o) && (pt P o).isNone) = true
    · have hcol : col (hm S o) = true := by simp only [Bool.and_eq_true] at hc; exact hc.1.2
      have hpt : pt P o = none := by simp only [Bool.and_eq_true] at hc; exact Option.isNone_iff_eq_none.mp hc.2
      have hnin : o ∉ pf P := fun z => by have := (i.2.2.1 o).mp z; rw [hpt] at this; cases this
      have hlen : (pf P).length < 96 := by
        have h1 := nodup_len (pf P ++ [o]) (all S) (List.nodup_append.mpr ⟨i.1, by simp, fun a ha b hb => by
          simp at hb
          subst hb
          exact fun z => hnin (z ▸ ha)⟩) (fun x hx => by
          rcases List.mem_append.mp hx with q | q
          · exact (i.2.1 x q).1
          · simp at q; subst q; exact hm0)
        have h2 := all_len b
        simp at h1
        omega
      have ek : knd S o = 2 ∨ knd S o = 3 := by unfold knd; split <;> simp
      have e1 : find1 S col P (some o) = (match (tgF S P (knd S o) (wd S o)).1 with
        | none => bad P
        | some t => plc (tgF S P (knd S o) (wd S o)).2 o t (wd S o)) := if_pos hc
      have cont : ∀ h2, RC h2 S → RP h2 S col (tgF S P (knd S o) (wd S o)).2 → CF h h2 → TT 34 47 [rv 0 (some 0), rv 1 (some o), un] [rv 2 (tgF S P (knd S o) (wd S o)).1] h2 0 0 (fun x h' => x = some (iv (bI (po (match (tgF S P (knd S o) (wd S o)).1 with
        | none => bad P
        | some t => plc (tgF S P (knd S o) (wd S o)).2 o t (wd S o))))) ∧ RC h' S ∧ RP h' S col (match (tgF S P (knd S o) (wd S o)).1 with
        | none => bad P
        | some t => plc (tgF S P (knd S o) (wd S o)).2 o t (wd S o)) ∧ CF h h') := by
        intro h2 c2 p2 cf2
        cases ht : (tgF S P (knd S o) (wd S o)).1 with
        | none =>
          rw [tgF_none ht] at p2
          refine r_astore_n 48 [rv 0 (some 0), rv 1 (some o), rv 2 none] d_34_47 rfl rfl rfl ?_
          refine r_aload_n 49 d_34_48 rfl rfl ?_
          refine r_ifnonnull 54 52 d_34_49 (by decide) rfl (fun i_49 c_49 => absurd c_49 (by simp)) (fun c_49 => ?_)
          refine r_iconst 53 (nI 0) d_34_52 rfl (by decide) ?_
          refine r_zreturn d_34_53 rfl rfl ?_
          exact ⟨rfl, c2, p2, cf2⟩
        | some t =>
          have ht12 := tgF_lt i ek ht
          obtain ⟨ef, eo⟩ := tgF_keep S P (knd S o) (wd S o)
          generalize (tgF S P (knd S o) (wd S o)).2 = P1 at p2 ef eo
          have hlen1 : (pf P1).length < 96 := by rw [ef]; exact hlen
          refine r_astore_n 48 [rv 0 (some 0), rv 1 (some o), rv 2 (some t)] d_34_47 rfl rfl rfl ?_
          refine r_aload_n 49 d_34_48 rfl rfl ?_
          refine r_ifnonnull 54 52 d_34_49 (by decide) rfl (fun i_49 c_49 => ?_) (fun c_49 => absurd c_49 (by simp))
          refine r_aload_n 55 d_34_54 rfl rfl ?_
          refine r_aload_n 56 d_34_55 rfl rfl ?_
          refine r_putR 59 1 6 2 d_34_56 rfl fk_0_159 (Or.inl rfl) rfl (by decide) (fun o => by cases o <;> exact ⟨rfl, rfl⟩) ?_
          refine r_aload_n 60 d_34_59 rfl rfl ?_
          refine r_dup 61 d_34_60 rfl rfl ?_
          refine r_getI 64 2 8 (nI (pu P1 t)) d_34_61 rfl fk_0_150 rfl (p2.1 t ht12).2.2 ?_
          refine r_aload_n 65 d_34_64 rfl rfl ?_
          refine r_getI 68 1 1 (nI (wd S o)) d_34_65 rfl fk_0_96 rfl (c2.wd holt) ?_
          refine r_iadd 69 (nI ((pu P1 t) + (wd S o))) d_34_68 rfl (nI_add (pu P1 t) (wd S o)) ?_
          refine r_putI 72 2 8 d_34_69 rfl fk_0_150 (Or.inl rfl) rfl rfl rfl ?_
          refine r_aload_n 73 d_34_72 rfl rfl ?_
          refine r_getR 76 0 2 4 (some 13) d_34_73 rfl fk_0_24 rfl (by decide) (ST.fnd (ST_sI (ST_sR c2.st rfl) rfl)) ?_
          refine r_aload_n 77 d_34_76 rfl rfl ?_
          refine r_getI 80 0 3 (nI (pf P1).length) d_34_77 rfl fk_0_140 rfl p2.2.2.2.1 ?_
          refine r_aload_n 81 d_34_80 rfl rfl ?_
          refine r_aast 82 4 1 ((pf P1).length) d_34_81 rfl (Or.inl ⟨rfl, rfl⟩) rfl (ST.lfn (ST_sI (ST_sR c2.st rfl) rfl) hlen1) ?_
          refine r_aload_n 83 d_34_82 rfl rfl ?_
          refine r_dup 84 d_34_83 rfl rfl ?_
          refine r_getI 87 0 3 (nI (pf P1).length) d_34_84 rfl fk_0_140 rfl p2.2.2.2.1 ?_
          refine r_iconst 88 (nI 1) d_34_87 rfl (by decide) ?_
          refine r_iadd 89 (nI (((pf P1).length) + 1)) d_34_88 rfl (nI_add ((pf P1).length) 1) ?_
          refine r_putI 92 0 3 d_34_89 rfl fk_0_140 (Or.inl rfl) rfl rfl rfl ?_
          refine r_iconst 93 (nI 1) d_34_92 rfl (by decide) ?_
          refine r_zreturn d_34_93 rfl rfl ?_
          refine ⟨by show _ = some (iv (bI (po P1))); rw [eo, ok]; rfl, rc_03 (S := S) (rc_413 (S := S) c2 _ _) _, ⟨fun r' hr' => ⟨(p2.1 r' hr').1, (p2.1 r' hr').2.1, ?_⟩, fun x hx => ?_, p2.2.2.1, FD_push (h := sI (sR h2 1 o 6 (some t)) 2 t 8 (nI (pu P1 t + wd S o))) p2.2.2.2 o⟩, CF_sI (CF_sR (CF_sI (CF_sR cf2 rfl) rfl) rfl) rfl⟩
          · show (if 2 = 2 ∧ 8 = 8 ∧ r' = t then nI (pu P1 t + wd S o) else hI h2 2 r' 8) = nI (va_up (pu P1) t (pu P1 t + wd S o) r')
            rw [← nI_up (p2.1 r' hr').2.2]
            simp
          · show (if 1 = 1 ∧ 6 = 6 ∧ x = o then some t else hR h2 1 x 6) = va_up (pt P1) o (some t) x
            unfold va_up
            by_cases e : x = o
            · simp [e]
            · simp [e, p2.2.1 x hx]
      have body : TT 34 40 [rv 0 (some 0), rv 1 (some o), un] [iv (nI (knd S o)), rv 0 (some 0)] h 0 0 (fun x h' => x = some (iv (bI (po (find1 S col P (some o))))) ∧ RC h' S ∧ RP h' S col (find1 S col P (some o)) ∧ CF h h') := by
        rw [e1]
        refine r_aload_n 41 d_34_40 rfl rfl ?_
        refine r_getI 44 1 1 (nI (wd S o)) d_34_41 rfl fk_0_96 rfl (c.wd holt) ?_
        refine r_callV (k1 := 0) (n1 := 0) (k := 0) (n := 0) 47 35 0 [iv (nI (knd S o)), iv (nI (wd S o))] d_34_44 rfl mk_35 lk_0_172 mv_35 rfl rfl rfl rfl rfl _ (c_targetFor c b p i ek (by omega)) ?_
        intro r_44 h_44 q_44
        obtain ⟨q1, q2, q3, q4⟩ := q_44
        subst q1
        show TT 34 47 [rv 0 (some 0), rv 1 (some o), un] [rv 2 ((tgF S P (knd S o) (wd S o)).1)] h_44 _ _ _
        exact cont h_44 q2 q3 q4
      refine r_aload_n 1 d_34_0 rfl rfl ?_
      refine r_ifnull 21 4 d_34_1 (by decide) rfl (fun c_1 => absurd c_1 (by simp)) (fun i_1 c_1 => ?_)
      refine r_aload_n 5 d_34_4 rfl rfl ?_
      refine r_getR 8 1 3 2 (some (hm S o)) d_34_5 rfl fk_0_169 rfl (by decide) hhm ?_
      refine r_getI 11 2 6 (nI 1) d_34_8 rfl fk_0_143 rfl ((p.1 _ hr).1.trans (by rw [hcol]; rfl)) ?_
      refine r_if_eq 21 14 d_34_11 (by decide) rfl (fun c_11 => absurd c_11 (by decide)) (fun c_11 => ?_)
      refine r_aload_n 15 d_34_14 rfl rfl ?_
      refine r_getR 18 1 6 2 none d_34_15 rfl fk_0_159 rfl (by decide) ((p.2.1 o hm0).trans hpt) ?_
      refine r_ifnull 23 21 d_34_18 (by decide) rfl (fun c_18 => ?_) (fun i_18 c_18 => absurd c_18 (by simp))
      refine r_aload_n 24 d_34_23 rfl rfl ?_
      refine r_aload_n 25 d_34_24 rfl rfl ?_
      refine r_getR 28 1 3 2 (some (hm S o)) d_34_25 rfl fk_0_169 rfl (by decide) hhm ?_
      refine r_getI 31 2 3 (nI (kd S (hm S o))) d_34_28 rfl fk_0_93 rfl (c.kd hr) ?_
      refine r_iconst 32 (nI 1) d_34_31 rfl (by decide) ?_
      refine r_icmp_ne 39 35 d_34_32 (by decide) rfl (fun c_32 => ?_) (fun c_32 => ?_)
      · skip
        refine r_iconst 40 (nI 3) d_34_39 rfl (by decide) ?_
        first
        | (have e : knd S o = 3 := if_neg (fun z => c_32 (by rw [z])); rw [e] at body; exact body)
        | (have e : knd S o = 2 := if_pos ((nI_eq (by omega) (by decide)).mp c_32); rw [e] at body; exact body)
      · skip
        refine r_iconst 36 (nI 2) d_34_35 rfl (by decide) ?_
        refine r_goto 40 d_34_36 (by decide) ?_
        first
        | (have e : knd S o = 3 := if_neg (fun z => c_32 (by rw [z])); rw [e] at body; exact body)
        | (have e : knd S o = 2 := if_pos ((nI_eq (by omega) (by decide)).mp c_32); rw [e] at body; exact body)
    · have e1 : find1 S col P (some o) = P := if_neg hc
      rw [e1]
      by_cases hcol : col (hm S o) = true
      · cases hpt : pt P o with
        | none => exact absurd (by rw [ok, hcol, hpt]; rfl) hc
        | some t =>
          refine r_aload_n 1 d_34_0 rfl rfl ?_
          refine r_ifnull 21 4 d_34_1 (by decide) rfl (fun c_1 => absurd c_1 (by simp)) (fun i_1 c_1 => ?_)
          refine r_aload_n 5 d_34_4 rfl rfl ?_
          refine r_getR 8 1 3 2 (some (hm S o)) d_34_5 rfl fk_0_169 rfl (by decide) hhm ?_
          refine r_getI 11 2 6 (nI 1) d_34_8 rfl fk_0_143 rfl ((p.1 _ hr).1.trans (by rw [hcol]; rfl)) ?_
          refine r_if_eq 21 14 d_34_11 (by decide) rfl (fun c_11 => absurd c_11 (by decide)) (fun c_11 => ?_)
          refine r_aload_n 15 d_34_14 rfl rfl ?_
          refine r_getR 18 1 6 2 (some t) d_34_15 rfl fk_0_159 rfl (by decide) ((p.2.1 o hm0).trans hpt) ?_
          refine r_ifnull 23 21 d_34_18 (by decide) rfl (fun c_18 => absurd c_18 (by simp)) (fun i_18 c_18 => ?_)
          refine r_iconst 22 (nI 1) d_34_21 rfl (by decide) ?_
          refine r_zreturn d_34_22 rfl rfl ?_
          exact ⟨by rw [ok]; rfl, c, p, CF.rf h⟩
      · have hcf : col (hm S o) = false := by simpa using hcol
        refine r_aload_n 1 d_34_0 rfl rfl ?_
        refine r_ifnull 21 4 d_34_1 (by decide) rfl (fun c_1 => absurd c_1 (by simp)) (fun i_1 c_1 => ?_)
        refine r_aload_n 5 d_34_4 rfl rfl ?_
        refine r_getR 8 1 3 2 (some (hm S o)) d_34_5 rfl fk_0_169 rfl (by decide) hhm ?_
        refine r_getI 11 2 6 (nI 0) d_34_8 rfl fk_0_143 rfl ((p.1 _ hr).1.trans (by rw [hcf]; rfl)) ?_
        refine r_if_eq 21 14 d_34_11 (by decide) rfl (fun c_11 => ?_) (fun c_11 => absurd rfl c_11)
        refine r_iconst 22 (nI 1) d_34_21 rfl (by decide) ?_
        refine r_zreturn d_34_22 rfl rfl ?_
        exact ⟨by rw [ok]; rfl, c, p, CF.rf h⟩
