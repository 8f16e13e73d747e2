/-! contracts of the class: carrying a plan out -/
def skS (S : SS) (r k : Nat) : SS := mkS (va_up (kd S) r k) (us S) (lw S) (itm S) (ro S) (wd S) (fd S) (hm S) (so S) (cu S) (ct S)
theorem rc_sk {h : AH} {S : SS} (c : RC h S) (r k : Nat) : RC (sI h 2 r 3 (nI k)) (skS S r k) := by
  refine ⟨ST_sI c.st rfl, fun r' hr => ⟨?_, c.us hr, c.lw hr, c.ic hr, (c.2.1 r' hr).2.2.2.2⟩, c.2.2⟩
  show (if 2 = 2 ∧ 3 = 3 ∧ r' = r then nI k else hI h 2 r' 3) = nI (va_up (kd S) r k r')
  rw [← nI_up (c.kd hr)]
  simp
/-- the regions below n: collected ones are free, those that are targets have their kind -/
def coS (S : SS) (col : Nat → Bool) (P : PP) (n : Nat) : SS := mkS (fun r => if r < n then (if col r = true then 0 else if pk P r = 0 then kd S r else pk P r) else kd S r) (fun r => if r < n ∧ col r = true then 0 else us S r) (fun r => if r < n ∧ col r = true then none else lw S r) (fun r => if r < n ∧ col r = true then [] else itm S r) (ro S) (wd S) (fd S) (hm S) (so S) (cu S) (ct S)
theorem co_up {α : Type} {col : Nat → Bool} {n : Nat} (f : Nat → α) (z : α) (hc : col n = true) : (fun r => if r < n + 1 ∧ col r = true then z else f r) = va_up (fun r => if r < n ∧ col r = true then z else f r) n z := by
  funext r
  unfold va_up
  by_cases e : r = n
  · subst e
    rw [if_pos rfl, if_pos ⟨by omega, hc⟩]
  · rw [if_neg e]
    dsimp only
    by_cases e2 : r < n ∧ col r = true
    · rw [if_pos e2, if_pos ⟨by omega, e2.2⟩]
    · rw [if_neg e2, if_neg (fun z => e2 ⟨by omega, z.2⟩)]
theorem co_no {α : Type} {col : Nat → Bool} {n : Nat} (f : Nat → α) (z : α) (hc : col n = false) : (fun r => if r < n + 1 ∧ col r = true then z else f r) = fun r => if r < n ∧ col r = true then z else f r := by
  funext r
  by_cases e : r = n
  · subst e
    rw [if_neg (fun z => by rw [hc] at z; exact Bool.false_ne_true z.2), if_neg (fun z => by omega)]
  · by_cases e2 : r < n ∧ col r = true
    · rw [if_pos e2, if_pos ⟨by omega, e2.2⟩]
    · rw [if_neg e2, if_neg (fun z => e2 ⟨by omega, z.2⟩)]
theorem coS_c {S : SS} {col : Nat → Bool} {P : PP} {n : Nat} (hc : col n = true) : coS S col P (n + 1) = clS (coS S col P n) n := by
  have e1 : (fun r => if r < n + 1 then (if col r = true then 0 else if pk P r = 0 then kd S r else pk P r) else kd S r) = va_up (fun r => if r < n then (if col r = true then 0 else if pk P r = 0 then kd S r else pk P r) else kd S r) n 0 := by
    funext r
    unfold va_up
    by_cases e : r = n
    · subst e
      rw [if_pos rfl, if_pos (by omega), if_pos hc]
    · rw [if_neg e]
      dsimp only
      by_cases e2 : r < n
      · rw [if_pos e2, if_pos (by omega)]
      · rw [if_neg e2, if_neg (by omega)]
  unfold coS
  rw [e1, co_up (us S) 0 hc, co_up (lw S) none hc, co_up (itm S) [] hc]
  rfl
theorem coS_k {S : SS} {col : Nat → Bool} {P : PP} {n : Nat} (hc : col n = false) (hp : ¬ pk P n = 0) : coS S col P (n + 1) = skS (coS S col P n) n (pk P n) := by
  have e1 : (fun r => if r < n + 1 then (if col r = true then 0 else if pk P r = 0 then kd S r else pk P r) else kd S r) = va_up (fun r => if r < n then (if col r = true then 0 else if pk P r = 0 then kd S r else pk P r) else kd S r) n (pk P n) := by
    funext r
    unfold va_up
    by_cases e : r = n
    · subst e
      rw [if_pos rfl, if_pos (by omega), if_neg (by rw [hc]; exact Bool.false_ne_true), if_neg hp]
    · rw [if_neg e]
      dsimp only
      by_cases e2 : r < n
      · rw [if_pos e2, if_pos (by omega)]
      · rw [if_neg e2, if_neg (by omega)]
  unfold coS
  rw [e1, co_no (us S) 0 hc, co_no (lw S) none hc, co_no (itm S) [] hc]
  rfl
theorem coS_n {S : SS} {col : Nat → Bool} {P : PP} {n : Nat} (hc : col n = false) (hp : pk P n = 0) : coS S col P (n + 1) = coS S col P n := by
  have e1 : (fun r => if r < n + 1 then (if col r = true then 0 else if pk P r = 0 then kd S r else pk P r) else kd S r) = fun r => if r < n then (if col r = true then 0 else if pk P r = 0 then kd S r else pk P r) else kd S r := by
    funext r
    by_cases e : r = n
    · subst e
      rw [if_pos (by omega), if_neg (by rw [hc]; exact Bool.false_ne_true), if_pos hp, if_neg (by omega)]
    · by_cases e2 : r < n
      · rw [if_pos e2, if_pos (by omega)]
      · rw [if_neg e2, if_neg (by omega)]
  unfold coS
  rw [e1, co_no (us S) 0 hc, co_no (lw S) none hc, co_no (itm S) [] hc]
theorem coS_0 (S : SS) (col : Nat → Bool) (P : PP) : coS S col P 0 = S := by
  unfold coS
  simp only [Nat.not_lt_zero, false_and, if_false]
  rfl
def c2S (S : SS) (w : Nat) : SS := mkS (kd S) (us S) (lw S) (itm S) (ro S) (wd S) (fd S) (hm S) (so S) (cu S) (va_up (ct S) 2 (ct S 2 + w))
theorem rc_c2 {h : AH} {S : SS} (c : RC h S) (w : Nat) : RC (sI h 0 0 8 (nI (ct S 2 + w))) (c2S S w) :=
  ⟨ST_sI c.st rfl, c.2.1, c.2.2.1, c.2.2.2.1, c.2.2.2.2.1, c.2.2.2.2.2.1, c.cu, c.ct0, c.ct1, rfl, c.ct3⟩
def apF (P : PP) (T : SS) (o : Nat) : SS := match pt P o with
  | none => T
  | some t => c2S (apS T t o) (wd T o)
def endC (T : SS) : SS := mkS (kd T) (us T) (lw T) (itm T) (ro T) (wd T) (fd T) (hm T) (so T) none (va_up (ct T) 0 (ct T 0 + 1))
theorem rc_endC {h : AH} {T : SS} (c : RC h T) : RC (sI (sR h 0 0 5 none) 0 0 6 (nI (ct T 0 + 1))) (endC T) :=
  ⟨ST_sI (ST_sR c.st rfl) rfl, c.2.1, c.2.2.1, c.2.2.2.1, c.2.2.2.2.1, c.2.2.2.2.2.1, rfl, rfl, c.ct1, c.ct2, c.ct3⟩
def cpS (S : SS) (col : Nat → Bool) (P : PP) : SS := endC ((pf P).foldl (apF P) (coS S col P 12))
theorem rp_ap {h : AH} {S : SS} {col : Nat → Bool} {P : PP} (p : RP h S col P) {r o c : Nat} (hr : r < 12) : RP (apH h r o c) S col P := ⟨p.1, p.2.1, p.2.2.1, fd_ap p.2.2.2 hr⟩
/-- targets have room for what is still to come -/
def CPk (S : SS) (P : PP) (T : SS) (rest : List Nat) : Prop := wd T = wd S ∧ ct T 3 = ct S 3 ∧ ∀ r, r < 12 → pk P r ≠ 0 → 2 * (itm T r).length ≤ us T r ∧ us T r + swt S P rest r ≤ 16
theorem swt_cons {S : SS} {P : PP} {o t r : Nat} {l : List Nat} (h : pt P o = some t) : swt S P (o :: l) r = (if t = r then wd S o else 0) + swt S P l r := by
  unfold swt
  rw [List.filter_cons, h]
  by_cases e : t = r
  · simp [e, sw]
  · simp [e, sw]
theorem CPk_step {S : SS} {P : PP} {T : SS} {o t : Nat} {l : List Nat} (q : CPk S P T (o :: l)) (h : pt P o = some t) (hw : 2 ≤ wd S o) : CPk S P (c2S (apS T t o) (wd T o)) l := by
  refine ⟨q.1, q.2.1, fun r hr hp => ?_⟩
  obtain ⟨a1, a2⟩ := q.2.2 r hr hp
  rw [swt_cons h] at a2
  show 2 * (va_up (itm T) t (itm T t ++ [o]) r).length ≤ va_up (us T) t (us T t + wd T o) r ∧ va_up (us T) t (us T t + wd T o) r + swt S P l r ≤ 16
  have e1 : wd T o = wd S o := by rw [q.1]
  by_cases e : r = t
  · subst e
    rw [va_up_self, va_up_self, List.length_append, e1]
    rw [if_pos rfl] at a2
    simp only [List.length_cons, List.length_nil]
    omega
  · rw [va_up_ne _ _ e, va_up_ne _ _ e]
    rw [if_neg (Ne.symm e)] at a2
    omega
theorem c_carryOutPlan {h : AH} {S : SS} {col : Nat → Bool} {P : PP} (c : RC h S) (b : BD S) (sm : SMc S col) (p : RP h S col P) (i : PI S col P) (hfree : ∀ r, r < 12 → kd S r = 0 → itm S r = [] ∧ us S r = 0) : TT 36 0 [rv 0 (some 0), un, un] [] h 0 0 (fun x h' => x = none ∧ RC h' (cpS S col P) ∧ hI h' 0 0 3 = nI (pf P).length ∧ CF h h') := by
  have hl := PI_len b i
  have loop2 : ∀ n k h1 T v, k + n = (pf P).length → RC h1 T → RP h1 S col P → CPk S P T ((pf P).drop k) → (pf P).foldl (apF P) (coS S col P 12) = ((pf P).drop k).foldl (apF P) T → CF h h1 → TT 36 52 [rv 0 (some 0), iv (nI k), v] [] h1 0 0 (fun x h' => x = none ∧ RC h' (cpS S col P) ∧ hI h' 0 0 3 = nI (pf P).length ∧ CF h h') := by
    intro n
    induction n with
    | zero =>
      intro k h1 T v hk c1 p1 q he cf
      have e0 : (pf P).drop k = [] := List.drop_eq_nil_of_le (by omega)
      rw [e0] at he
      refine TT.forget 2 (ls' := [rv 0 (some 0), iv (nI k), un]) rfl ?_
      refine r_iload_n 53 d_36_52 rfl rfl ?_
      refine r_aload_n 54 d_36_53 rfl rfl ?_
      refine r_getI 57 0 3 (nI (pf P).length) d_36_54 rfl fk_0_140 rfl p1.2.2.2.1 ?_
      refine r_icmp_ge 102 60 d_36_57 (by decide) rfl (fun c_57 => ?_) (fun c_57 => absurd (nI_le (by omega) (by omega)) c_57)
      refine r_aload_n 103 d_36_102 rfl rfl ?_
      refine r_null 104 2 d_36_103 rfl ?_
      refine r_putR 107 0 5 2 d_36_104 rfl fk_0_83 (Or.inl rfl) rfl (by decide) (fun o => by cases o <;> exact ⟨rfl, rfl⟩) ?_
      refine r_aload_n 108 d_36_107 rfl rfl ?_
      refine r_dup 109 d_36_108 rfl rfl ?_
      refine r_getI 112 0 6 (nI (ct T 0)) d_36_109 rfl fk_0_182 rfl c1.ct0 ?_
      refine r_iconst 113 (nI 1) d_36_112 rfl (by decide) ?_
      refine r_iadd 114 (nI ((ct T 0) + 1)) d_36_113 rfl (nI_add (ct T 0) 1) ?_
      refine r_putI 117 0 6 d_36_114 rfl fk_0_182 (Or.inl rfl) rfl rfl rfl ?_
      refine r_return d_36_117 rfl ?_
      refine ⟨rfl, ?_, p1.2.2.2.1, CF_sI (CF_sR cf rfl) rfl⟩
      unfold cpS
      rw [he]
      exact rc_endC c1
    | succ n ih =>
      intro k h1 T v hk c1 p1 q he cf
      obtain ⟨o, ho⟩ := at_lt (l := pf P) (i := k) (by omega)
      have hoa := i.2.1 o (List.mem_of_getElem? ho)
      have holt0 := c.mlt hoa.1
      have holt : o < ct T 3 := by rw [q.2.1]; exact holt0
      obtain ⟨t, ht⟩ := Option.isSome_iff_exists.mp ((i.2.2.1 o).mp (List.mem_of_getElem? ho))
      obtain ⟨ht12, htk⟩ := i.2.2.2.1 o t ht
      have hsm := sm o hoa.1 hoa.2
      rw [drop_s ho] at q he
      have hq := q.2.2 t ht12 htk
      rw [swt_cons ht, if_pos rfl] at hq
      have hk96 : k < 96 := by omega
      have e1 : apF P T o = c2S (apS T t o) (wd T o) := by unfold apF; rw [ht]
      refine TT.forget 2 (ls' := [rv 0 (some 0), iv (nI k), un]) rfl ?_
      refine r_iload_n 53 d_36_52 rfl rfl ?_
      refine r_aload_n 54 d_36_53 rfl rfl ?_
      refine r_getI 57 0 3 (nI (pf P).length) d_36_54 rfl fk_0_140 rfl p1.2.2.2.1 ?_
      refine r_icmp_ge 102 60 d_36_57 (by decide) rfl (fun c_57 => absurd c_57 (nI_ge (by omega) (by omega))) (fun c_57 => ?_)
      refine r_aload_n 61 d_36_60 rfl rfl ?_
      refine r_getR 64 0 2 4 (some 13) d_36_61 rfl fk_0_24 rfl (by decide) (ST.fnd c1.st) ?_
      refine r_iload_n 65 d_36_64 rfl rfl ?_
      refine r_aald 66 4 1 k (some o) d_36_65 rfl (Or.inl ⟨rfl, rfl⟩) rfl (ST.lfn c1.st hk96) (p1.2.2.2.2 k o ho) ?_
      refine r_getR 69 1 6 2 (some t) d_36_66 rfl fk_0_159 rfl (by decide) ((p1.2.1 o hoa.1).trans ht) ?_
      refine r_aload_n 70 d_36_69 rfl rfl ?_
      refine r_getR 73 0 2 4 (some 13) d_36_70 rfl fk_0_24 rfl (by decide) (ST.fnd c1.st) ?_
      refine r_iload_n 74 d_36_73 rfl rfl ?_
      refine r_aald 75 4 1 k (some o) d_36_74 rfl (Or.inl ⟨rfl, rfl⟩) rfl (ST.lfn c1.st hk96) (p1.2.2.2.2 k o ho) ?_
      refine r_callV (k1 := 0) (n1 := 0) (k := 0) (n := 0) 78 5 2 [rv 1 (some o)] d_36_75 rfl mk_5 lk_0_45 mv_5 rfl rfl rfl rfl rfl _ (c_append h1 t o (itm T t).length c1.st ht12 (c1.ic ht12) (by omega)) ?_
      intro r_75 h_75 q_75
      obtain ⟨q1, q2⟩ := q_75
      subst q1
      subst q2
      show TT 36 78 [rv 0 (some 0), iv (nI k), un] [] (apH h1 t o (itm T t).length) _ _ _
      refine r_aload_n 79 d_36_78 rfl rfl ?_
      refine r_dup 80 d_36_79 rfl rfl ?_
      refine r_getI 83 0 8 (nI (ct T 2)) d_36_80 rfl fk_0_179 rfl c1.ct2 ?_
      refine r_aload_n 84 d_36_83 rfl rfl ?_
      refine r_getR 87 0 2 4 (some 13) d_36_84 rfl fk_0_24 rfl (by decide) (ST.fnd (rc_ap c1 ht12 holt).st) ?_
      refine r_iload_n 88 d_36_87 rfl rfl ?_
      refine r_aald 89 4 1 k (some o) d_36_88 rfl (Or.inl ⟨rfl, rfl⟩) rfl (ST.lfn (rc_ap c1 ht12 holt).st hk96) ((fd_ap p1.2.2.2 ht12).2 k o ho) ?_
      refine r_getI 92 1 1 (nI (wd T o)) d_36_89 rfl fk_0_96 rfl (c1.wd holt) ?_
      refine r_iadd 93 (nI ((ct T 2) + (wd T o))) d_36_92 rfl (nI_add (ct T 2) (wd T o)) ?_
      refine r_putI 96 0 8 d_36_93 rfl fk_0_179 (Or.inl rfl) rfl rfl rfl ?_
      refine r_iinc 99 (nI (k + 1)) [rv 0 (some 0), iv (nI (k + 1)), un] d_36_96 rfl rfl (nI_1 k) rfl rfl ?_
      refine r_goto 52 d_36_99 (by decide) ?_
      refine ih (k + 1) _ _ _ (by omega) (rc_c2 (rc_ap c1 ht12 holt) (wd T o)) (rp_ap p1 ht12) (CPk_step q ht (by omega)) ?_ (CF_sI (cf_ap cf) rfl)
      rw [he, List.foldl_cons, e1]
  have loop1 : ∀ n r h1 v, r + n = 12 → RC h1 (coS S col P r) → RP h1 S col P → CF h h1 → TT 36 2 [rv 0 (some 0), iv (nI r), v] [] h1 0 0 (fun x h' => x = none ∧ RC h' (cpS S col P) ∧ hI h' 0 0 3 = nI (pf P).length ∧ CF h h') := by
    intro n
    induction n with
    | zero =>
      intro r h1 v hr c1 p1 cf
      obtain rfl : r = 12 := by omega
      refine TT.forget 2 (ls' := [rv 0 (some 0), iv (nI 12), un]) rfl ?_
      refine r_iload_n 3 d_36_2 rfl rfl ?_
      refine r_bipush 5 (nI 12) d_36_3 rfl (by decide) ?_
      refine r_icmp_ge 50 8 d_36_5 (by decide) rfl (fun c_5 => ?_) (fun c_5 => absurd (nI_le (Nat.le_refl _) (by decide)) c_5)
      refine r_iconst 51 (nI 0) d_36_50 rfl (by decide) ?_
      refine r_istore_n 52 [rv 0 (some 0), iv (nI 0), un] d_36_51 rfl rfl rfl ?_
      refine loop2 (pf P).length 0 h1 (coS S col P 12) un (by omega) c1 p1 ⟨rfl, rfl, fun r hr hp => ?_⟩ rfl cf
      obtain ⟨a1, a2, a3, a4, a5⟩ := i.2.2.2.2.1 r hr
      obtain ⟨e1, e2⟩ := hfree r hr (a2 hp)
      have f1 : itm (coS S col P 12) r = [] := by
        show (if r < 12 ∧ col r = true then [] else itm S r) = []
        split
        · rfl
        · exact e1
      have f2 : us (coS S col P 12) r = 0 := by
        show (if r < 12 ∧ col r = true then 0 else us S r) = 0
        split
        · rfl
        · exact e2
      rw [f1, f2]
      show 2 * 0 ≤ 0 ∧ 0 + swt S P (pf P) r ≤ 16
      omega
    | succ n ih =>
      intro r h1 v hr c1 p1 cf
      have hr12 : r < 12 := by omega
      have hpk := (i.2.2.2.2.1 r hr12).1
      refine TT.forget 2 (ls' := [rv 0 (some 0), iv (nI r), un]) rfl ?_
      refine r_iload_n 3 d_36_2 rfl rfl ?_
      refine r_bipush 5 (nI 12) d_36_3 rfl (by decide) ?_
      refine r_icmp_ge 50 8 d_36_5 (by decide) rfl (fun c_5 => absurd c_5 (nI_ge hr12 (by decide))) (fun c_5 => ?_)
      refine r_aload_n 9 d_36_8 rfl rfl ?_
      refine r_getR 12 0 0 5 (some 0) d_36_9 rfl fk_0_11 rfl (by decide) (ST.reg c1.st) ?_
      refine r_iload_n 13 d_36_12 rfl rfl ?_
      refine r_aald 14 5 2 r (some r) d_36_13 rfl (Or.inr ⟨rfl, rfl⟩) rfl (ST.l50 c1.st hr12) (ST.rat c1.st hr12) ?_
      refine r_astore_n 15 [rv 0 (some 0), iv (nI r), rv 2 (some r)] d_36_14 rfl rfl rfl ?_
      refine r_aload_n 16 d_36_15 rfl rfl ?_
      refine r_getI 19 2 6 (bI (col r)) d_36_16 rfl fk_0_143 rfl (p1.1 r hr12).1 ?_
      refine r_if_eq 29 22 d_36_19 (by decide) rfl (fun c_19 => ?_) (fun c_19 => ?_)
      · skip
        refine r_aload_n 30 d_36_29 rfl rfl ?_
        refine r_getI 33 2 7 (nI (pk P r)) d_36_30 rfl fk_0_147 rfl (p1.1 r hr12).2.1 ?_
        refine r_if_eq 44 36 d_36_33 (by decide) rfl (fun c_33 => ?_) (fun c_33 => ?_)
        · skip
          refine r_iinc 47 (nI (r + 1)) [rv 0 (some 0), iv (nI (r + 1)), rv 2 (some r)] d_36_44 rfl rfl (nI_1 r) rfl rfl ?_
          refine r_goto 2 d_36_47 (by decide) ?_
          first
          | exact ih (r + 1) _ _ (by omega) (by rw [coS_n (bI_0 c_19) ((nI_eq (a := pk P r) (b := 0) (by omega) (by decide)).mp c_33)]; exact c1) p1 cf
          | exact ih (r + 1) _ _ (by omega) (by rw [coS_k (bI_0 c_19) (fun z => c_33 (by rw [z]; rfl))]; exact rc_sk c1 r (pk P r)) p1 (CF_sI cf rfl)
          | exact ih (r + 1) _ _ (by omega) (by rw [coS_c (bI_1 c_19)]; exact rc_cl c1 r) p1 (CF_sI (CF_sI (CF_sI (CF_sI cf rfl) rfl) rfl) rfl)
        · skip
          refine r_aload_n 37 d_36_36 rfl rfl ?_
          refine r_aload_n 38 d_36_37 rfl rfl ?_
          refine r_getI 41 2 7 (nI (pk P r)) d_36_38 rfl fk_0_147 rfl (p1.1 r hr12).2.1 ?_
          refine r_putI 44 2 3 d_36_41 rfl fk_0_93 (Or.inl rfl) rfl rfl rfl ?_
          refine r_iinc 47 (nI (r + 1)) [rv 0 (some 0), iv (nI (r + 1)), rv 2 (some r)] d_36_44 rfl rfl (nI_1 r) rfl rfl ?_
          refine r_goto 2 d_36_47 (by decide) ?_
          first
          | exact ih (r + 1) _ _ (by omega) (by rw [coS_n (bI_0 c_19) ((nI_eq (a := pk P r) (b := 0) (by omega) (by decide)).mp c_33)]; exact c1) p1 cf
          | exact ih (r + 1) _ _ (by omega) (by rw [coS_k (bI_0 c_19) (fun z => c_33 (by rw [z]; rfl))]; exact rc_sk c1 r (pk P r)) p1 (CF_sI cf rfl)
          | exact ih (r + 1) _ _ (by omega) (by rw [coS_c (bI_1 c_19)]; exact rc_cl c1 r) p1 (CF_sI (CF_sI (CF_sI (CF_sI cf rfl) rfl) rfl) rfl)
      · skip
        refine r_aload_n 23 d_36_22 rfl rfl ?_
        refine r_callV (k1 := 0) (n1 := 0) (k := 0) (n := 0) 26 6 2 [] d_36_23 rfl mk_6 lk_0_176 mv_6 rfl rfl rfl rfl rfl _ (c_clear h1 r) ?_
        intro r_23 h_23 q_23
        obtain ⟨q1, q2⟩ := q_23
        subst q1
        subst q2
        show TT 36 26 [rv 0 (some 0), iv (nI r), rv 2 (some r)] [] (clH h1 r) _ _ _
        refine r_goto 44 d_36_26 (by decide) ?_
        refine r_iinc 47 (nI (r + 1)) [rv 0 (some 0), iv (nI (r + 1)), rv 2 (some r)] d_36_44 rfl rfl (nI_1 r) rfl rfl ?_
        refine r_goto 2 d_36_47 (by decide) ?_
        first
        | exact ih (r + 1) _ _ (by omega) (by rw [coS_n (bI_0 c_19) ((nI_eq (a := pk P r) (b := 0) (by omega) (by decide)).mp c_33)]; exact c1) p1 cf
        | exact ih (r + 1) _ _ (by omega) (by rw [coS_k (bI_0 c_19) (fun z => c_33 (by rw [z]; rfl))]; exact rc_sk c1 r (pk P r)) p1 (CF_sI cf rfl)
        | exact ih (r + 1) _ _ (by omega) (by rw [coS_c (bI_1 c_19)]; exact rc_cl c1 r) p1 (CF_sI (CF_sI (CF_sI (CF_sI cf rfl) rfl) rfl) rfl)
  refine r_iconst 1 (nI 0) d_36_0 rfl (by decide) ?_
  refine r_istore_n 2 [rv 0 (some 0), iv (nI 0), un] d_36_1 rfl rfl rfl ?_
  exact loop1 12 0 h un rfl (by rw [coS_0]; exact c) p (CF.rf h)
