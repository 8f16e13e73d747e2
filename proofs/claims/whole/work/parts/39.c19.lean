/-! contracts of the class: choosing (the rows on bits began as rows of the kit's BITS.to-paste) -/
def bt (x : Int32) (i : Nat) : Bool := x.toBitVec.getLsbD i
theorem b_ext {x y : Int32} (h : ∀ i, i < 32 → bt x i = bt y i) : x = y := Int32.toBitVec_inj.mp (BitVec.eq_of_getLsbD_eq (fun i hi => h i hi))
theorem b_or (x y : Int32) (i : Nat) : bt (x ||| y) i = (bt x i || bt y i) := by unfold bt; rw [Int32.toBitVec_or, BitVec.getLsbD_or]
theorem b_and (x y : Int32) (i : Nat) : bt (x &&& y) i = (bt x i && bt y i) := by unfold bt; rw [Int32.toBitVec_and, BitVec.getLsbD_and]
theorem b_0 (i : Nat) : bt 0 i = false := BitVec.getLsbD_zero
theorem s_l : ∀ n, n < 32 → ((nI n &&& 31).toBitVec.smod 32).toNat = n := by decide +kernel
theorem b_shl (n : Nat) (hn : n < 32) (x : Int32) {i : Nat} (hi : i < 32) : bt (x <<< (nI n &&& 31)) i = (decide (n ≤ i) && bt x (i - n)) := by
  unfold bt
  rw [Int32.toBitVec_shiftLeft]
  show (x.toBitVec <<< ((nI n &&& 31).toBitVec.smod 32).toNat).getLsbD i = _
  rw [s_l n hn, BitVec.getLsbD_shiftLeft]
  rcases Nat.lt_or_ge i n with h | h
  · simp [h, Nat.not_le.mpr h]
  · simp [hi, h, Nat.not_lt.mpr h]
theorem b_sshr (n : Nat) (hn : n < 32) (x : Int32) {i : Nat} (hi : i < 32) : bt (x >>> (nI n &&& 31)) i = if n + i < 32 then bt x (n + i) else bt x 31 := by
  unfold bt
  rw [Int32.toBitVec_shiftRight]
  show (x.toBitVec.sshiftRight ((nI n &&& 31).toBitVec.smod 32).toNat).getLsbD i = _
  rw [s_l n hn, BitVec.getLsbD_sshiftRight, BitVec.msb_eq_getLsbD_last]
  simp [hi]
theorem b_one : ∀ i, i < 32 → bt (nI 1) i = decide (i = 0) := by decide +kernel
theorem b_sh {n i : Nat} (hn : n < 32) (hi : i < 32) : bt (nI 1 <<< (nI n &&& 31)) i = decide (i = n) := by
  rw [b_shl n hn _ hi]
  rcases Nat.lt_or_ge i n with h | h
  · rw [decide_eq_false (by omega), decide_eq_false (by omega)]; rfl
  · rw [decide_eq_true h, b_one _ (by omega), Bool.true_and]
    simp only [decide_eq_decide]
    omega
/-- a set of regions as bits -/
def bts (ch : Nat → Bool) : Nat → Int32
  | 0 => nI 0
  | n + 1 => if ch n = true then bts ch n ||| (nI 1 <<< (nI n &&& 31)) else bts ch n
theorem bts_bt (ch : Nat → Bool) : ∀ n, n ≤ 32 → ∀ i, i < 32 → bt (bts ch n) i = (decide (i < n) && ch i)
  | 0, _, i, _ => by rw [decide_eq_false (by omega)]; exact b_0 i
  | n + 1, hn, i, hi => by
    have h := bts_bt ch n (by omega) i hi
    unfold bts
    by_cases e : ch n = true
    · rw [if_pos e, b_or, h, b_sh (by omega) hi]
      by_cases e2 : i = n
      · subst e2
        simp [e]
      · rw [decide_eq_false e2, Bool.or_false]
        congr 1
        simp only [decide_eq_decide]
        omega
    · rw [if_neg e, h]
      by_cases e2 : i = n
      · subst e2
        simp [e]
      · congr 1
        simp only [decide_eq_decide]
        omega
theorem bts_up {ch : Nat → Bool} {q : Nat} (hq : q < 12) : bts ch 12 ||| (nI 1 <<< (nI q &&& 31)) = bts (va_up ch q true) 12 := by
  apply b_ext
  intro i hi
  rw [b_or, bts_bt _ 12 (by decide) i hi, bts_bt _ 12 (by decide) i hi, b_sh (by omega) hi]
  by_cases e : i = q
  · subst e
    rw [va_up_self]
    simp [hq]
  · rw [va_up_ne _ _ e, decide_eq_false e, Bool.or_false]
theorem bts_test {ch : Nat → Bool} {r : Nat} (hr : r < 12) : (bts ch 12 >>> (nI r &&& 31)) &&& nI 1 = nI 1 ↔ ch r = true := by
  have h0 : bt ((bts ch 12 >>> (nI r &&& 31)) &&& nI 1) 0 = ch r := by
    rw [b_and, b_sshr r (by omega) _ (by decide), if_pos (by omega), bts_bt _ 12 (by decide) _ (by omega), b_one 0 (by decide), Nat.add_zero, decide_eq_true hr]
    simp
  constructor
  · intro h
    rw [h] at h0
    rw [← h0]
    decide
  · intro h
    apply b_ext
    intro i hi
    by_cases e : i = 0
    · subst e
      rw [h0, h]
      decide
    · rw [b_and, b_one i hi, decide_eq_false e, Bool.and_false]
theorem bst_ok {S : SS} {k : Nat → Bool} : ∀ n r b, (∀ q, b = some q → q < 12 ∧ k q = true) → r + n ≤ 12 → ∀ q, bst S k n r b = some q → q < 12 ∧ k q = true
  | 0, _, _, hb, _, q, h => hb q h
  | n + 1, r, none, hb, hn, q, h => by
    by_cases e : k r = true
    · have e1 : bst S k (n + 1) r none = bst S k n (r + 1) (some r) := by rw [bst, e]; rfl
      exact bst_ok n (r + 1) (some r) (fun q' hq' => by cases hq'; exact ⟨by omega, e⟩) (by omega) q (e1 ▸ h)
    · have ef : k r = false := by simpa using e
      have e1 : bst S k (n + 1) r none = bst S k n (r + 1) none := by rw [bst, ef]; rfl
      exact bst_ok n (r + 1) none hb (by omega) q (e1 ▸ h)
  | n + 1, r, some p, hb, hn, q, h => by
    by_cases e : (k r && cb S r p) = true
    · have e1 : bst S k (n + 1) r (some p) = bst S k n (r + 1) (some r) := by rw [bst]; simp only [e]; rfl
      exact bst_ok n (r + 1) (some r) (fun q' hq' => by cases hq'; exact ⟨by omega, (Bool.and_eq_true _ _ ▸ e).1⟩) (by omega) q (e1 ▸ h)
    · have ef : (k r && cb S r p) = false := by simpa using e
      have e1 : bst S k (n + 1) r (some p) = bst S k n (r + 1) (some p) := by rw [bst]; simp only [ef]; rfl
      exact bst_ok n (r + 1) (some p) hb (by omega) q (e1 ▸ h)
/-- the choice within a budget: candidates left, spent, chosen -/
def chs (S : SS) (bu : Nat) : Nat → (Nat → Bool) → Nat → (Nat → Bool) → (Nat → Bool)
  | 0, _, _, ch => ch
  | n + 1, k, sp, ch => match bst S k 12 0 none with
    | none => ch
    | some q => if cst S q ≤ bu - sp then chs S bu n (va_up k q false) (sp + cst S q) (va_up ch q true) else chs S bu n (va_up k q false) sp ch
def chF (S : SS) (bu : Nat) : Nat → Bool := chs S bu 12 (cand S) 0 (fun _ => false)
theorem FLg_up {h : AH} {S : SS} {k : Nat → Bool} (f : FLg h S k) (q : Nat) : FLg (sI h 2 q 9 (nI 0)) S (va_up k q false) := by
  intro r hr
  by_cases e : r = q
  · subst e
    rw [va_up_self]
    exact ⟨hI_at, fun z => by cases z⟩
  · rw [va_up_ne _ _ e]
    exact ⟨(hI_ne e 9).trans (f r hr).1, (f r hr).2⟩
theorem c_chooseWithin {h : AH} {S : SS} (c : RC h S) (b : BD S) (cl : CL S) {bu : Nat} (hbu : bu < 2 ^ 31) : TT 38 0 [rv 0 (some 0), iv (nI bu), un, un, un, un] [] h 0 0 (fun x h' => x = some (iv (bts (chF S bu) 12)) ∧ RC h' S ∧ CF h h') := by
  have loop : ∀ n t h1 k sp ch v, t + n = 12 → RC h1 S → FLg h1 S k → sp ≤ bu → chF S bu = chs S bu n k sp ch → CF h h1 → TT 38 11 [rv 0 (some 0), iv (nI bu), iv (bts ch 12), iv (nI sp), iv (nI t), v] [] h1 0 0 (fun x h' => x = some (iv (bts (chF S bu) 12)) ∧ RC h' S ∧ CF h h') := by
    intro n
    induction n with
    | zero =>
      intro t h1 k sp ch v ht c1 f1 hsp he cf
      obtain rfl : t = 12 := by omega
      refine TT.forget 5 (ls' := [rv 0 (some 0), iv (nI bu), iv (bts ch 12), iv (nI sp), iv (nI 12), un]) rfl ?_
      have e1 : chF S bu = ch := he
      rw [e1]
      refine r_iload 13 d_38_11 rfl rfl ?_
      refine r_bipush 15 (nI 12) d_38_13 rfl (by decide) ?_
      refine r_icmp_ge 73 18 d_38_15 (by decide) rfl (fun c_15 => ?_) (fun c_15 => absurd (nI_le (Nat.le_refl _) (by decide)) c_15)
      refine r_iload_n 74 d_38_73 rfl rfl ?_
      refine r_ireturn d_38_74 rfl ?_
      exact ⟨rfl, c1, cf⟩
    | succ n ih =>
      intro t h1 k sp ch v ht c1 f1 hsp he cf
      refine TT.forget 5 (ls' := [rv 0 (some 0), iv (nI bu), iv (bts ch 12), iv (nI sp), iv (nI t), un]) rfl ?_
      cases hb : bst S k 12 0 none with
      | none =>
        have e1 : chF S bu = ch := by rw [he, chs, hb]
        rw [e1]
        refine r_iload 13 d_38_11 rfl rfl ?_
        refine r_bipush 15 (nI 12) d_38_13 rfl (by decide) ?_
        refine r_icmp_ge 73 18 d_38_15 (by decide) rfl (fun c_15 => absurd c_15 (nI_ge (by omega) (by decide))) (fun c_15 => ?_)
        refine r_aload_n 19 d_38_18 rfl rfl ?_
        refine r_callV (k1 := 0) (n1 := 0) (k := 0) (n := 0) 22 40 0 [] d_38_19 rfl mk_40 lk_0_188 mv_40 rfl rfl rfl rfl rfl _ (c_bestCandidate c1 b f1) ?_
        intro r_19 h_19 q_19
        obtain ⟨q1, q2⟩ := q_19
        rw [hb] at q2
        subst q2
        rw [q1]
        show TT 38 22 [rv 0 (some 0), iv (nI bu), iv (bts ch 12), iv (nI sp), iv (nI t), un] [rv 2 none] h1 _ _ _
        refine r_astore 24 [rv 0 (some 0), iv (nI bu), iv (bts ch 12), iv (nI sp), iv (nI t), rv 2 none] d_38_22 rfl rfl rfl ?_
        refine r_aload 26 d_38_24 rfl rfl ?_
        refine r_ifnonnull 32 29 d_38_26 (by decide) rfl (fun i_26 c_26 => absurd c_26 (by simp)) (fun c_26 => ?_)
        refine r_goto 73 d_38_29 (by decide) ?_
        refine r_iload_n 74 d_38_73 rfl rfl ?_
        refine r_ireturn d_38_74 rfl ?_
        exact ⟨rfl, c1, cf⟩
      | some q =>
        obtain ⟨hq12, kq⟩ := bst_ok 12 0 none (fun q hq => by cases hq) (by decide) q hb
        have e1 : chF S bu = if cst S q ≤ bu - sp then chs S bu n (va_up k q false) (sp + cst S q) (va_up ch q true) else chs S bu n (va_up k q false) sp ch := by rw [he, chs, hb]
        have hc := inc_le c b q
        have hl := lv0_le b hq12
        have hcs : cst S q ≤ 305 := by unfold cst; omega
        have fq := ((f1 q hq12).2 kq).2
        refine r_iload 13 d_38_11 rfl rfl ?_
        refine r_bipush 15 (nI 12) d_38_13 rfl (by decide) ?_
        refine r_icmp_ge 73 18 d_38_15 (by decide) rfl (fun c_15 => absurd c_15 (nI_ge (by omega) (by decide))) (fun c_15 => ?_)
        refine r_aload_n 19 d_38_18 rfl rfl ?_
        refine r_callV (k1 := 0) (n1 := 0) (k := 0) (n := 0) 22 40 0 [] d_38_19 rfl mk_40 lk_0_188 mv_40 rfl rfl rfl rfl rfl _ (c_bestCandidate c1 b f1) ?_
        intro r_19 h_19 q_19
        obtain ⟨q1, q2⟩ := q_19
        rw [hb] at q2
        subst q2
        rw [q1]
        show TT 38 22 [rv 0 (some 0), iv (nI bu), iv (bts ch 12), iv (nI sp), iv (nI t), un] [rv 2 (some q)] h1 _ _ _
        refine r_astore 24 [rv 0 (some 0), iv (nI bu), iv (bts ch 12), iv (nI sp), iv (nI t), rv 2 (some q)] d_38_22 rfl rfl rfl ?_
        refine r_aload 26 d_38_24 rfl rfl ?_
        refine r_ifnonnull 32 29 d_38_26 (by decide) rfl (fun i_26 c_26 => ?_) (fun c_26 => absurd c_26 (by simp))
        refine r_aload 34 d_38_32 rfl rfl ?_
        refine r_iconst 35 (nI 0) d_38_34 rfl (by decide) ?_
        refine r_putI 38 2 9 d_38_35 rfl fk_0_192 (Or.inl rfl) rfl rfl rfl ?_
        refine r_aload 40 d_38_38 rfl rfl ?_
        refine r_getI 43 2 11 (nI (cst S q)) d_38_40 rfl fk_0_195 rfl fq ?_
        refine r_iload_n 44 d_38_43 rfl rfl ?_
        refine r_iload_n 45 d_38_44 rfl rfl ?_
        refine r_isub 46 (nI (bu - sp)) d_38_45 rfl (pk_sub hsp) ?_
        refine r_icmp_gt 67 49 d_38_46 (by decide) rfl (fun c_46 => ?_) (fun c_46 => ?_)
        · skip
          refine r_iinc 70 (nI (t + 1)) [rv 0 (some 0), iv (nI bu), iv (bts ch 12), iv (nI sp), iv (nI (t + 1)), rv 2 (some q)] d_38_67 rfl rfl (nI_1 t) rfl rfl ?_
          refine r_goto 11 d_38_70 (by decide) ?_
          first
          | (have hle : ¬ cst S q ≤ bu - sp := Nat.not_le.mpr ((nI_ltI (by omega) (by omega)).mp c_46); exact ih (t + 1) _ _ _ _ _ (by omega) (rc_29 c1 q _) (FLg_up f1 q) hsp (by rw [e1, if_neg hle]) (CF_sI cf rfl))
          | (have hle : cst S q ≤ bu - sp := Nat.not_lt.mp (fun z => c_46 ((nI_ltI (by omega) (by omega)).mpr z)); exact ih (t + 1) _ _ _ _ _ (by omega) (rc_29 c1 q _) (FLg_up f1 q) (by omega) (by rw [e1, if_pos hle]) (CF_sI cf rfl))
        · skip
          refine r_iload_n 50 d_38_49 rfl rfl ?_
          refine r_aload 52 d_38_50 rfl rfl ?_
          refine r_getI 55 2 11 (nI (cst S q)) d_38_52 rfl fk_0_195 rfl fq ?_
          refine r_iadd 56 (nI (sp + (cst S q))) d_38_55 rfl (nI_add sp (cst S q)) ?_
          refine r_istore_n 57 [rv 0 (some 0), iv (nI bu), iv (bts ch 12), iv (nI (sp + (cst S q))), iv (nI t), rv 2 (some q)] d_38_56 rfl rfl rfl ?_
          refine r_iload_n 58 d_38_57 rfl rfl ?_
          refine r_iconst 59 (nI 1) d_38_58 rfl (by decide) ?_
          refine r_aload 61 d_38_59 rfl rfl ?_
          refine r_getI 64 2 0 (nI q) d_38_61 rfl fk_0_198 rfl (c1.st.idx hq12) ?_
          refine r_ishl 65 ((nI 1) <<< ((nI q) &&& 31)) d_38_64 rfl rfl ?_
          refine r_ior 66 (bts (va_up ch q true) 12) d_38_65 rfl (bts_up hq12) ?_
          refine r_istore_n 67 [rv 0 (some 0), iv (nI bu), iv (bts (va_up ch q true) 12), iv (nI (sp + (cst S q))), iv (nI t), rv 2 (some q)] d_38_66 rfl rfl rfl ?_
          refine r_iinc 70 (nI (t + 1)) [rv 0 (some 0), iv (nI bu), iv (bts (va_up ch q true) 12), iv (nI (sp + (cst S q))), iv (nI (t + 1)), rv 2 (some q)] d_38_67 rfl rfl (nI_1 t) rfl rfl ?_
          refine r_goto 11 d_38_70 (by decide) ?_
          first
          | (have hle : ¬ cst S q ≤ bu - sp := Nat.not_le.mpr ((nI_ltI (by omega) (by omega)).mp c_46); exact ih (t + 1) _ _ _ _ _ (by omega) (rc_29 c1 q _) (FLg_up f1 q) hsp (by rw [e1, if_neg hle]) (CF_sI cf rfl))
          | (have hle : cst S q ≤ bu - sp := Nat.not_lt.mp (fun z => c_46 ((nI_ltI (by omega) (by omega)).mpr z)); exact ih (t + 1) _ _ _ _ _ (by omega) (rc_29 c1 q _) (FLg_up f1 q) (by omega) (by rw [e1, if_pos hle]) (CF_sI cf rfl))
  refine r_aload_n 1 d_38_0 rfl rfl ?_
  refine r_callV (k1 := 0) (n1 := 0) (k := 0) (n := 0) 4 39 0 [] d_38_1 rfl mk_39 lk_0_185 mv_39 rfl rfl rfl rfl rfl _ (c_weighRegions c b cl) ?_
  intro r_1 h_1 q_1
  obtain ⟨q1, q2, q3, q4⟩ := q_1
  subst q1
  show TT 38 4 [rv 0 (some 0), iv (nI bu), un, un, un, un] [] h_1 _ _ _
  refine r_iconst 5 (nI 0) d_38_4 rfl (by decide) ?_
  refine r_istore_n 6 [rv 0 (some 0), iv (nI bu), iv (nI 0), un, un, un] d_38_5 rfl rfl rfl ?_
  refine r_iconst 7 (nI 0) d_38_6 rfl (by decide) ?_
  refine r_istore_n 8 [rv 0 (some 0), iv (nI bu), iv (nI 0), iv (nI 0), un, un] d_38_7 rfl rfl rfl ?_
  refine r_iconst 9 (nI 0) d_38_8 rfl (by decide) ?_
  refine r_istore 11 [rv 0 (some 0), iv (nI bu), iv (nI 0), iv (nI 0), iv (nI 0), un] d_38_9 rfl rfl rfl ?_
  exact loop 12 0 h_1 (cand S) 0 (fun _ => false) un rfl q2 q3 (Nat.zero_le _) rfl q4
/-- the bits that chosen answers -/
def chA (S : SS) (a : Int32) : Int32 := if a < 0 then nI 0 else bts (chF S a.toNatClampNeg) 12
theorem c_chosen {h : AH} {S : SS} (c : RC h S) (b : BD S) (cl : CL S) (a : Int32) : TT 37 0 [rv 0 (some 0), iv a] [] h 0 0 (fun x h' => x = some (iv (chA S a)) ∧ RC h' S ∧ CF h h') := by
  by_cases ha : a < 0
  · have e : chA S a = nI 0 := if_pos ha
    rw [e]
    refine r_iload_n 1 d_37_0 rfl rfl ?_
    refine r_if_ge 8 4 d_37_1 (by decide) rfl (fun c_1 => absurd c_1 (fun z => absurd ha (Int32.not_lt.mpr z))) (fun c_1 => ?_)
    refine r_iconst 5 (nI 0) d_37_4 rfl (by decide) ?_
    refine r_goto 13 d_37_5 (by decide) ?_
    refine r_ireturn d_37_13 rfl ?_
    exact ⟨rfl, c, CF.rf h⟩
  · obtain ⟨bu, hbu, rfl⟩ := nI_of ha
    have e : chA S (nI bu) = bts (chF S bu) 12 := by unfold chA; rw [if_neg ha, nI_clamp hbu]
    rw [e]
    refine r_iload_n 1 d_37_0 rfl rfl ?_
    refine r_if_ge 8 4 d_37_1 (by decide) rfl (fun c_1 => ?_) (fun c_1 => absurd (nI_pos' hbu) c_1)
    refine r_aload_n 9 d_37_8 rfl rfl ?_
    refine r_iload_n 10 d_37_9 rfl rfl ?_
    refine r_callV (k1 := 0) (n1 := 0) (k := 0) (n := 0) 13 38 0 [iv (nI bu)] d_37_10 rfl mk_38 lk_0_121 mv_38 rfl rfl rfl rfl rfl _ (c_chooseWithin c b cl hbu) ?_
    intro r_10 h_10 q_10
    obtain ⟨q1, q2, q3⟩ := q_10
    subst q1
    show TT 37 13 [rv 0 (some 0), iv (nI bu)] [iv (bts (chF S bu) 12)] h_10 _ _ _
    refine r_ireturn d_37_13 rfl ?_
    exact ⟨rfl, q2, q3⟩
/-- the plan of a collection -/
def plan (S : SS) (col : Nat → Bool) : PP := bfsP S col 97 0 (finds S col (finds S col P0 (roL S 0 6)) (stL S col 12 0))
theorem P0_PI (S : SS) (col : Nat → Bool) : PI S col P0 := by
  refine ⟨List.nodup_nil, fun o ho => (by cases ho), fun o => ⟨fun h => (by cases h), fun h => (by cases h)⟩, fun o t h => (by cases h), fun r _ => ⟨Nat.zero_le _, fun h => absurd rfl h, fun _ => rfl, rfl, Nat.zero_le _⟩, fun k _ t h => (by cases h)⟩
theorem roL_mem {S : SS} (cl : CL S) : ∀ n i, i + n = 6 → ∀ o, some o ∈ roL S i n → o ∈ all S
  | 0, _, _, o, h => by cases h
  | n + 1, i, hi, o, h => by
    rcases List.mem_cons.mp h with q | q
    · exact cl.1 i o (by omega) q.symm
    · exact roL_mem cl n (i + 1) (by omega) o q
theorem stL_mem {S : SS} {col : Nat → Bool} (cl : CL S) : ∀ n r, r + n = 12 → ∀ o, some o ∈ stL S col n r → o ∈ all S
  | 0, _, _, o, h => by cases h
  | n + 1, r, hr, o, h => by
    unfold stL at h
    rcases List.mem_append.mp h with q | q
    · split at q
      · cases q
      · obtain ⟨o', h1, h2⟩ := List.mem_flatMap.mp q
        exact cl.2.1 o' o (mem_all.mpr ⟨r, by omega, h1⟩) h2
    · exact stL_mem cl n (r + 1) (by omega) o q
/-- what a collection within a budget makes of the state, and its answer -/
theorem c_collectWithin {h : AH} {S : SS} (c : RC h S) (b : BD S) (cl : CL S) (h2 : ∀ o, o ∈ all S → 2 ≤ wd S o) (hfree : ∀ r, r < 12 → kd S r = 0 → itm S r = [] ∧ us S r = 0) {bu : Nat} (hbu : bu < 2 ^ 31) (sm : SMc S (colF S (chF S bu))) : TT 28 0 [rv 0 (some 0), iv (nI bu)] [] h 0 0 (fun x h' => (po (plan S (colF S (chF S bu))) = true ∧ x = some (iv (nI (pf (plan S (colF S (chF S bu)))).length)) ∧ RC h' (cpS S (colF S (chF S bu)) (plan S (colF S (chF S bu)))) ∧ CF h h') ∨ (po (plan S (colF S (chF S bu))) = false ∧ x = some (iv (-2)) ∧ (∃ fl, RL S fl ∧ RC h' (fulS S fl)) ∧ CF h h')) := by
  generalize hcol : colF S (chF S bu) = col at sm ⊢
  have full : ∀ h1, RC h1 S → CF h h1 → po (plan S col) = false → TT 28 30 [rv 0 (some 0), iv (nI bu)] [] h1 0 0 (fun x h' => (po (plan S col) = true ∧ x = some (iv (nI (pf (plan S col)).length)) ∧ RC h' (cpS S col (plan S col)) ∧ CF h h') ∨ (po (plan S col) = false ∧ x = some (iv (-2)) ∧ (∃ fl, RL S fl ∧ RC h' (fulS S fl)) ∧ CF h h')) := by
    intro h1 c1 cf hp
    refine r_aload_n 31 d_28_30 rfl rfl ?_
    refine r_callV (k1 := 0) (n1 := 0) (k := 0) (n := 0) 34 48 0 [] d_28_31 rfl mk_48 lk_0_60 mv_48 rfl rfl rfl rfl rfl _ (c_collectFully c1 b cl h2) ?_
    intro r_31 h_31 q_31
    obtain ⟨fl, q1, q2, q3, q4⟩ := q_31
    subst q2
    show TT 28 34 [rv 0 (some 0), iv (nI bu)] [iv (nI fl.length)] h_31 _ _ _
    refine r_pop 35 d_28_34 rfl rfl ?_
    refine r_bipush 37 (-2) d_28_35 rfl (by decide) ?_
    refine r_ireturn d_28_37 rfl ?_
    exact Or.inr ⟨hp, rfl, ⟨fl, q1, q3⟩, cf.tr q4⟩
  have i0 := P0_PI S col
  have i1 := finds_PI sm (roL S 0 6) P0 i0 (roL_mem cl 6 0 rfl)
  have i2 := finds_PI sm (stL S col 12 0) _ i1 (stL_mem cl 12 0 rfl)
  have e2 : po (finds S col P0 (roL S 0 6)) = false → po (plan S col) = false := fun z => by
    unfold plan
    rw [finds_bad z, bfsP_bad z]
    exact z
  have e3 : po (finds S col (finds S col P0 (roL S 0 6)) (stL S col 12 0)) = false → po (plan S col) = false := fun z => by
    unfold plan
    rw [bfsP_bad z]
    exact z
  refine r_aload_n 1 d_28_0 rfl rfl ?_
  refine r_aload_n 2 d_28_1 rfl rfl ?_
  refine r_iload_n 3 d_28_2 rfl rfl ?_
  refine r_callV (k1 := 0) (n1 := 0) (k := 0) (n := 0) 6 38 0 [iv (nI bu)] d_28_3 rfl mk_38 lk_0_121 mv_38 rfl rfl rfl rfl rfl _ (c_chooseWithin c b cl hbu) ?_
  intro r_3 h_3 q_3
  obtain ⟨q1, q2, q3⟩ := q_3
  subst q1
  show TT 28 6 [rv 0 (some 0), iv (nI bu)] [iv (bts (chF S bu) 12), rv 0 (some 0)] h_3 _ _ _
  refine r_callV (k1 := 0) (n1 := 0) (k := 0) (n := 0) 9 29 0 [iv (bts (chF S bu) 12)] d_28_6 rfl mk_29 lk_0_124 mv_29 rfl rfl rfl rfl rfl _ (c_beginPlan q2 b (fun r hr => bts_test hr)) ?_
  intro r_6 h_6 q_6
  obtain ⟨p1, p2, p3, p4⟩ := q_6
  subst p1
  rw [hcol] at p3
  show TT 28 9 [rv 0 (some 0), iv (nI bu)] [] h_6 _ _ _
  refine r_aload_n 10 d_28_9 rfl rfl ?_
  refine r_callV (k1 := 0) (n1 := 0) (k := 0) (n := 0) 13 30 0 [] d_28_10 rfl mk_30 lk_0_127 mv_30 rfl rfl rfl rfl rfl _ (c_planRoots p2 b cl sm p3 i0 rfl) ?_
  intro r_10 h_10 q_10
  obtain ⟨u1, u2, u3, u4⟩ := q_10
  subst u1
  show TT 28 13 [rv 0 (some 0), iv (nI bu)] [iv (bI (po (finds S col P0 (roL S 0 6))))] h_10 _ _ _
  refine r_if_eq 30 16 d_28_13 (by decide) rfl (fun c_13 => ?_) (fun c_13 => ?_)
  · skip
    first
    | exact full h_10 u2 ((q3.tr p4).tr u4) (e2 (bI_0 c_13))
    | exact full h_17 v2 (((q3.tr p4).tr u4).tr v4) (e3 (bI_0 c_20))
    | exact full h_24 w2 ((((q3.tr p4).tr u4).tr v4).tr w5) (bI_0 c_27)
  · skip
    refine r_aload_n 17 d_28_16 rfl rfl ?_
    refine r_callV (k1 := 0) (n1 := 0) (k := 0) (n := 0) 20 31 0 [] d_28_17 rfl mk_31 lk_0_131 mv_31 rfl rfl rfl rfl rfl _ (c_planRegionsThatStay u2 b cl sm u3 i1 (bI_1 c_13)) ?_
    intro r_17 h_17 q_17
    obtain ⟨v1, v2, v3, v4⟩ := q_17
    subst v1
    show TT 28 20 [rv 0 (some 0), iv (nI bu)] [iv (bI (po (finds S col (finds S col P0 (roL S 0 6)) (stL S col 12 0))))] h_17 _ _ _
    refine r_if_eq 30 23 d_28_20 (by decide) rfl (fun c_20 => ?_) (fun c_20 => ?_)
    · skip
      first
      | exact full h_10 u2 ((q3.tr p4).tr u4) (e2 (bI_0 c_13))
      | exact full h_17 v2 (((q3.tr p4).tr u4).tr v4) (e3 (bI_0 c_20))
      | exact full h_24 w2 ((((q3.tr p4).tr u4).tr v4).tr w5) (bI_0 c_27)
    · skip
      refine r_aload_n 24 d_28_23 rfl rfl ?_
      refine r_callV (k1 := 0) (n1 := 0) (k := 0) (n := 0) 27 32 0 [] d_28_24 rfl mk_32 lk_0_134 mv_32 rfl rfl rfl rfl rfl _ (c_planFound v2 b cl sm v3 i2 (bI_1 c_20)) ?_
      intro r_24 h_24 q_24
      obtain ⟨w1, w2, w3, w4, w5⟩ := q_24
      subst w1
      show TT 28 27 [rv 0 (some 0), iv (nI bu)] [iv (bI (po (plan S col)))] h_24 _ _ _
      refine r_if_ne 38 30 d_28_27 (by decide) rfl (fun c_27 => ?_) (fun c_27 => ?_)
      · skip
        refine r_aload_n 39 d_28_38 rfl rfl ?_
        refine r_callV (k1 := 0) (n1 := 0) (k := 0) (n := 0) 42 36 0 [] d_28_39 rfl mk_36 lk_0_137 mv_36 rfl rfl rfl rfl rfl _ (c_carryOutPlan w2 b sm w3 w4 hfree) ?_
        intro r_39 h_39 q_39
        obtain ⟨x1, x2, x3, x4⟩ := q_39
        subst x1
        show TT 28 42 [rv 0 (some 0), iv (nI bu)] [] h_39 _ _ _
        refine r_aload_n 43 d_28_42 rfl rfl ?_
        refine r_getI 46 0 3 (nI (pf (plan S col)).length) d_28_43 rfl fk_0_140 rfl x3 ?_
        refine r_ireturn d_28_46 rfl ?_
        exact Or.inl ⟨bI_1 c_27, rfl, x2, ((((q3.tr p4).tr u4).tr v4).tr w5).tr x4⟩
      · skip
        first
        | exact full h_10 u2 ((q3.tr p4).tr u4) (e2 (bI_0 c_13))
        | exact full h_17 v2 (((q3.tr p4).tr u4).tr v4) (e3 (bI_0 c_20))
        | exact full h_24 w2 ((((q3.tr p4).tr u4).tr v4).tr w5) (bI_0 c_27)
