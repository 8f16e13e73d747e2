/-! contracts of the reference: young, oldWithRoom, side -/
def cnd (p : Nat → Bool) : Nat → Nat → Nat
  | 0, _ => 0
  | n + 1, r => cnd p n (r + 1) + (if p r = true then 1 else 0)
theorem cnd_cn (p : Nat → Bool) : ∀ n r, cnd p n r + cn p r = cn p (r + n)
  | 0, r => by simp [cnd]
  | n + 1, r => by
    have h := cnd_cn p n (r + 1)
    rw [cnd, show r + (n + 1) = r + 1 + n by omega, ← h, cn]
    omega
theorem lfr_fst {f : Nat → Bool} : ∀ n r, lfr f 1 n r 0 = fst f n r
  | 0, _ => rfl
  | n + 1, r => by
    rw [lfr, fst]
    by_cases e : f r = true
    · rw [if_pos e, if_pos rfl, if_pos e]; rfl
    · rw [if_neg e, if_neg (by decide), if_neg e, lfr_fst n (r + 1)]
theorem ol_none : ol none = -1 := rfl
theorem ol_some (j : Nat) : ol (some j) = nI j := rfl
theorem rx_ed {h : AH} {S : SS} {sg : Nat → Nat} (m : RM h S sg) (f : Nat) : RM (sI (sI h 6 8 f (nI 1)) 3 0 11 (nI f)) (edS S f) sg := by
  refine RX_reg m (XG_sI (XG_sI (XG.rf h) rfl) rfl) (fun r hr => ⟨?_, ?_, ?_⟩) rfl (fun k hk => ?_) ⟨rfl, rfl, rfl⟩ ⟨rfl, rfl, rfl, rfl⟩
  · show hI (sI h 6 8 f (nI 1)) 6 8 r = nI (va_up (kd S) f 1 r)
    rw [w6, ← nI_up (m.kd hr)]
    simp
  · exact (w6n (by decide)).trans (m.us hr)
  · exact (w6n (by decide)).trans (m.lw hr)
  · exact (w6n (by decide)).trans (m.ct hk)
theorem mf_ed {h h1 : AH} (a : MF h h1) (f : Nat) (x y : Int32) : MF h (sI (sI h1 6 8 f x) 3 0 11 y) := MF_sI (MF_sI a rfl) rfl
theorem m_young {h : AH} {S : SS} {sg : Nat → Nat} (m : RM h S sg) (v : IV S) {w : Nat} (hw : w ≤ 8) : TT 82 0 [rv 3 (some 0), iv (nI w), un, un, un] [] h 0 0 (fun x h' => x = some (iv (ol (edP S w).1)) ∧ RM h' (edP S w).2 sg ∧ MF h h') := by
  have b := v.bd
  have look : (cu S).filter (fun r => decide (us S r + w ≤ 16)) = none → TT 82 28 [rv 3 (some 0), iv (nI w), un, un, un] [] h 0 0 (fun x h' => x = some (iv (ol (edP S w).1)) ∧ RM h' (edP S w).2 sg ∧ MF h h') := by
    intro hno
    have loop : ∀ q n, q + n = 12 → TT 82 36 [rv 3 (some 0), iv (nI w), iv (nI (cnd (isk S 1) n q)), iv (ol (fst (isk S 0) n q)), iv (nI q - 1)] [] h 0 0 (fun x h' => x = some (iv (ol (edP S w).1)) ∧ RM h' (edP S w).2 sg ∧ MF h h') := by
      intro q
      induction q with
      | zero =>
        intro n hn
        obtain rfl : n = 12 := by omega
        have ec : cnd (isk S 1) 12 0 = cn (isk S 1) 12 := by
          have := cnd_cn (isk S 1) 12 0
          rw [show cn (isk S 1) 0 = 0 from rfl] at this
          omega
        have hcn := cn_le (isk S 1) 12
        rw [ec]
        cases hf : fst (isk S 0) 12 0 with
        | none =>
          have e : edP S w = (none, S) := by simp only [edP, hno, lfr_fst, hf]
          rw [e]
          refine r_iload 38 d_82_36 rfl rfl ?_
          refine r_if_lt 83 41 d_82_38 (by decide) rfl (fun c_38 => ?_) (fun c_38 => absurd (by decide) c_38)
          refine r_iload_n 84 d_82_83 rfl rfl ?_
          refine r_iconst 85 (nI 3) d_82_84 rfl (by decide) ?_
          refine r_icmp_ge 92 88 d_82_85 (by decide) rfl (fun c_85 => ?_) (fun c_85 => ?_)
          · skip
            refine r_iconst 93 (-1) d_82_92 rfl (by decide) ?_
            refine r_ireturn d_82_93 rfl ?_
            exact ⟨rfl, m, MF.rf h⟩
          · skip
            refine r_iload_n 89 d_82_88 rfl rfl ?_
            refine r_if_ge 94 92 d_82_89 (by decide) rfl (fun c_89 => absurd c_89 (by decide)) (fun c_89 => ?_)
            refine r_iconst 93 (-1) d_82_92 rfl (by decide) ?_
            refine r_ireturn d_82_93 rfl ?_
            exact ⟨rfl, m, MF.rf h⟩
        | some f =>
          have hf12 : f < 12 := by have := fst_lt 12 0 f hf; omega
          by_cases h3 : 3 ≤ cn (isk S 1) 12
          · have e : edP S w = (none, S) := by simp only [edP, hno, lfr_fst, hf, if_pos h3]
            rw [e]
            refine r_iload 38 d_82_36 rfl rfl ?_
            refine r_if_lt 83 41 d_82_38 (by decide) rfl (fun c_38 => ?_) (fun c_38 => absurd (by decide) c_38)
            refine r_iload_n 84 d_82_83 rfl rfl ?_
            refine r_iconst 85 (nI 3) d_82_84 rfl (by decide) ?_
            refine r_icmp_ge 92 88 d_82_85 (by decide) rfl (fun c_85 => ?_) (fun c_85 => absurd (nI_le h3 (by omega)) c_85)
            refine r_iconst 93 (-1) d_82_92 rfl (by decide) ?_
            refine r_ireturn d_82_93 rfl ?_
            exact ⟨rfl, m, MF.rf h⟩
          · have e : edP S w = (some f, edS S f) := by simp only [edP, hno, lfr_fst, hf, if_neg h3]
            rw [e]
            refine r_iload 38 d_82_36 rfl rfl ?_
            refine r_if_lt 83 41 d_82_38 (by decide) rfl (fun c_38 => ?_) (fun c_38 => absurd (by decide) c_38)
            refine r_iload_n 84 d_82_83 rfl rfl ?_
            refine r_iconst 85 (nI 3) d_82_84 rfl (by decide) ?_
            refine r_icmp_ge 92 88 d_82_85 (by decide) rfl (fun c_85 => absurd c_85 (nI_ge (by omega) (by decide))) (fun c_85 => ?_)
            refine r_iload_n 89 d_82_88 rfl rfl ?_
            refine r_if_ge 94 92 d_82_89 (by decide) rfl (fun c_89 => ?_) (fun c_89 => absurd (nI_pos' (by omega)) c_89)
            refine r_aload_n 95 d_82_94 rfl rfl ?_
            refine r_getR 98 3 8 6 (some 8) d_82_95 rfl fk_3_34 rfl (by decide) (MT.f8 m.mt) ?_
            refine r_iload_n 99 d_82_98 rfl rfl ?_
            refine r_iconst 100 (nI 1) d_82_99 rfl (by decide) ?_
            refine r_iast 101 f d_82_100 rfl rfl (MT.l6_8 m.mt hf12) ?_
            refine r_aload_n 102 d_82_101 rfl rfl ?_
            refine r_iload_n 103 d_82_102 rfl rfl ?_
            refine r_putI 106 3 11 d_82_103 rfl fk_3_43 (Or.inl rfl) rfl rfl rfl ?_
            refine r_iload_n 107 d_82_106 rfl rfl ?_
            refine r_ireturn d_82_107 rfl ?_
            exact ⟨rfl, rx_ed m f, mf_ed (MF.rf h) f _ _⟩
      | succ q ih =>
        intro n hn
        have hq12 : q < 12 := by omega
        have hk := b.kd hq12
        have z := ih (n + 1) (by omega)
        rw [nI_pred]
        refine r_iload 38 d_82_36 rfl rfl ?_
        refine r_if_lt 83 41 d_82_38 (by decide) rfl (fun c_38 => absurd c_38 (nI_pos (by omega))) (fun c_38 => ?_)
        refine r_iload_n 42 d_82_41 rfl rfl ?_
        refine r_aload_n 43 d_82_42 rfl rfl ?_
        refine r_getR 46 3 8 6 (some 8) d_82_43 rfl fk_3_34 rfl (by decide) (MT.f8 m.mt) ?_
        refine r_iload 48 d_82_46 rfl rfl ?_
        refine r_iald 49 q (nI (kd S q)) d_82_48 rfl rfl (MT.l6_8 m.mt hq12) (m.kd hq12) ?_
        refine r_iconst 50 (nI 1) d_82_49 rfl (by decide) ?_
        refine r_icmp_ne 57 53 d_82_50 (by decide) rfl (fun c_50 => ?_) (fun c_50 => ?_)
        · skip
          refine r_iconst 58 (nI 0) d_82_57 rfl (by decide) ?_
          refine r_iadd 59 (nI ((cnd (isk S 1) n (q + 1)) + 0)) d_82_58 rfl (nI_add (cnd (isk S 1) n (q + 1)) 0) ?_
          refine r_istore_n 60 [rv 3 (some 0), iv (nI w), iv (nI ((cnd (isk S 1) n (q + 1)) + 0)), iv (ol (fst (isk S 0) n (q + 1))), iv (nI q)] d_82_59 rfl rfl rfl ?_
          refine r_aload_n 61 d_82_60 rfl rfl ?_
          refine r_getR 64 3 8 6 (some 8) d_82_61 rfl fk_3_34 rfl (by decide) (MT.f8 m.mt) ?_
          refine r_iload 66 d_82_64 rfl rfl ?_
          refine r_iald 67 q (nI (kd S q)) d_82_66 rfl rfl (MT.l6_8 m.mt hq12) (m.kd hq12) ?_
          refine r_if_ne 75 70 d_82_67 (by decide) rfl (fun c_67 => ?_) (fun c_67 => ?_)
          · skip
            refine r_iload_n 76 d_82_75 rfl rfl ?_
            refine r_istore_n 77 [rv 3 (some 0), iv (nI w), iv (nI ((cnd (isk S 1) n (q + 1)) + 0)), iv (ol (fst (isk S 0) n (q + 1))), iv (nI q)] d_82_76 rfl rfl rfl ?_
            refine r_iinc 80 (nI q - 1) [rv 3 (some 0), iv (nI w), iv (nI ((cnd (isk S 1) n (q + 1)) + 0)), iv (ol (fst (isk S 0) n (q + 1))), iv (nI q - 1)] d_82_77 rfl rfl (dec1 q) rfl rfl ?_
            refine r_goto 36 d_82_80 (by decide) ?_
            first
            | (rw [cnd, if_neg (by rw [isk_f c_50]; exact Bool.false_ne_true), fst, if_neg (by rw [isk_f c_67]; exact Bool.false_ne_true)] at z; exact z)
            | (rw [cnd, if_neg (by rw [isk_f c_50]; exact Bool.false_ne_true), fst, if_pos (isk_t b hq12 (by decide) c_67)] at z; exact z)
            | (rw [cnd, if_pos (isk_t b hq12 (by decide) c_50), fst, if_neg (by rw [isk_f c_67]; exact Bool.false_ne_true)] at z; exact z)
            | (exfalso; rw [c_50] at c_67; exact absurd c_67 (by decide))
          · skip
            refine r_iload 72 d_82_70 rfl rfl ?_
            refine r_goto 76 d_82_72 (by decide) ?_
            refine r_istore_n 77 [rv 3 (some 0), iv (nI w), iv (nI ((cnd (isk S 1) n (q + 1)) + 0)), iv (nI q), iv (nI q)] d_82_76 rfl rfl rfl ?_
            refine r_iinc 80 (nI q - 1) [rv 3 (some 0), iv (nI w), iv (nI ((cnd (isk S 1) n (q + 1)) + 0)), iv (nI q), iv (nI q - 1)] d_82_77 rfl rfl (dec1 q) rfl rfl ?_
            refine r_goto 36 d_82_80 (by decide) ?_
            first
            | (rw [cnd, if_neg (by rw [isk_f c_50]; exact Bool.false_ne_true), fst, if_neg (by rw [isk_f c_67]; exact Bool.false_ne_true)] at z; exact z)
            | (rw [cnd, if_neg (by rw [isk_f c_50]; exact Bool.false_ne_true), fst, if_pos (isk_t b hq12 (by decide) c_67)] at z; exact z)
            | (rw [cnd, if_pos (isk_t b hq12 (by decide) c_50), fst, if_neg (by rw [isk_f c_67]; exact Bool.false_ne_true)] at z; exact z)
            | (exfalso; rw [c_50] at c_67; exact absurd c_67 (by decide))
        · skip
          refine r_iconst 54 (nI 1) d_82_53 rfl (by decide) ?_
          refine r_goto 58 d_82_54 (by decide) ?_
          refine r_iadd 59 (nI ((cnd (isk S 1) n (q + 1)) + 1)) d_82_58 rfl (nI_add (cnd (isk S 1) n (q + 1)) 1) ?_
          refine r_istore_n 60 [rv 3 (some 0), iv (nI w), iv (nI ((cnd (isk S 1) n (q + 1)) + 1)), iv (ol (fst (isk S 0) n (q + 1))), iv (nI q)] d_82_59 rfl rfl rfl ?_
          refine r_aload_n 61 d_82_60 rfl rfl ?_
          refine r_getR 64 3 8 6 (some 8) d_82_61 rfl fk_3_34 rfl (by decide) (MT.f8 m.mt) ?_
          refine r_iload 66 d_82_64 rfl rfl ?_
          refine r_iald 67 q (nI (kd S q)) d_82_66 rfl rfl (MT.l6_8 m.mt hq12) (m.kd hq12) ?_
          refine r_if_ne 75 70 d_82_67 (by decide) rfl (fun c_67 => ?_) (fun c_67 => ?_)
          · skip
            refine r_iload_n 76 d_82_75 rfl rfl ?_
            refine r_istore_n 77 [rv 3 (some 0), iv (nI w), iv (nI ((cnd (isk S 1) n (q + 1)) + 1)), iv (ol (fst (isk S 0) n (q + 1))), iv (nI q)] d_82_76 rfl rfl rfl ?_
            refine r_iinc 80 (nI q - 1) [rv 3 (some 0), iv (nI w), iv (nI ((cnd (isk S 1) n (q + 1)) + 1)), iv (ol (fst (isk S 0) n (q + 1))), iv (nI q - 1)] d_82_77 rfl rfl (dec1 q) rfl rfl ?_
            refine r_goto 36 d_82_80 (by decide) ?_
            first
            | (rw [cnd, if_neg (by rw [isk_f c_50]; exact Bool.false_ne_true), fst, if_neg (by rw [isk_f c_67]; exact Bool.false_ne_true)] at z; exact z)
            | (rw [cnd, if_neg (by rw [isk_f c_50]; exact Bool.false_ne_true), fst, if_pos (isk_t b hq12 (by decide) c_67)] at z; exact z)
            | (rw [cnd, if_pos (isk_t b hq12 (by decide) c_50), fst, if_neg (by rw [isk_f c_67]; exact Bool.false_ne_true)] at z; exact z)
            | (exfalso; rw [c_50] at c_67; exact absurd c_67 (by decide))
          · skip
            refine r_iload 72 d_82_70 rfl rfl ?_
            refine r_goto 76 d_82_72 (by decide) ?_
            refine r_istore_n 77 [rv 3 (some 0), iv (nI w), iv (nI ((cnd (isk S 1) n (q + 1)) + 1)), iv (nI q), iv (nI q)] d_82_76 rfl rfl rfl ?_
            refine r_iinc 80 (nI q - 1) [rv 3 (some 0), iv (nI w), iv (nI ((cnd (isk S 1) n (q + 1)) + 1)), iv (nI q), iv (nI q - 1)] d_82_77 rfl rfl (dec1 q) rfl rfl ?_
            refine r_goto 36 d_82_80 (by decide) ?_
            first
            | (rw [cnd, if_neg (by rw [isk_f c_50]; exact Bool.false_ne_true), fst, if_neg (by rw [isk_f c_67]; exact Bool.false_ne_true)] at z; exact z)
            | (rw [cnd, if_neg (by rw [isk_f c_50]; exact Bool.false_ne_true), fst, if_pos (isk_t b hq12 (by decide) c_67)] at z; exact z)
            | (rw [cnd, if_pos (isk_t b hq12 (by decide) c_50), fst, if_neg (by rw [isk_f c_67]; exact Bool.false_ne_true)] at z; exact z)
            | (exfalso; rw [c_50] at c_67; exact absurd c_67 (by decide))
    have z0 := loop 12 0 rfl
    refine r_iconst 29 (nI 0) d_82_28 rfl (by decide) ?_
    refine r_istore_n 30 [rv 3 (some 0), iv (nI w), iv (nI 0), un, un] d_82_29 rfl rfl rfl ?_
    refine r_iconst 31 (-1) d_82_30 rfl (by decide) ?_
    refine r_istore_n 32 [rv 3 (some 0), iv (nI w), iv (nI 0), iv (-1), un] d_82_31 rfl rfl rfl ?_
    refine r_bipush 34 (nI 11) d_82_32 rfl (by decide) ?_
    refine r_istore 36 [rv 3 (some 0), iv (nI w), iv (nI 0), iv (-1), iv (nI 11)] d_82_34 rfl rfl rfl ?_
    exact z0
  cases hc : cu S with
  | none =>
    refine r_aload_n 1 d_82_0 rfl rfl ?_
    refine r_getI 4 3 11 (-1) d_82_1 rfl fk_3_43 rfl (m.cu.trans (by rw [hc]; rfl)) ?_
    refine r_if_lt 28 7 d_82_4 (by decide) rfl (fun c_4 => ?_) (fun c_4 => absurd (by decide) c_4)
    exact look (by rw [hc]; rfl)
  | some r =>
    have hr := (v.2.2.2.2.2.2 r hc).1
    have hu := b.us hr
    refine r_aload_n 1 d_82_0 rfl rfl ?_
    refine r_getI 4 3 11 (nI r) d_82_1 rfl fk_3_43 rfl (m.cu.trans (by rw [hc]; rfl)) ?_
    refine r_if_lt 28 7 d_82_4 (by decide) rfl (fun c_4 => absurd c_4 (nI_pos (by omega))) (fun c_4 => ?_)
    refine r_aload_n 8 d_82_7 rfl rfl ?_
    refine r_getR 11 3 9 6 (some 9) d_82_8 rfl fk_3_37 rfl (by decide) (MT.f9 m.mt) ?_
    refine r_aload_n 12 d_82_11 rfl rfl ?_
    refine r_getI 15 3 11 (nI r) d_82_12 rfl fk_3_43 rfl (m.cu.trans (by rw [hc]; rfl)) ?_
    refine r_iald 16 r (nI (us S r)) d_82_15 rfl rfl (MT.l6_9 m.mt hr) (m.us hr) ?_
    refine r_iload_n 17 d_82_16 rfl rfl ?_
    refine r_iadd 18 (nI ((us S r) + w)) d_82_17 rfl (nI_add (us S r) w) ?_
    refine r_bipush 20 (nI 16) d_82_18 rfl (by decide) ?_
    refine r_icmp_gt 28 23 d_82_20 (by decide) rfl (fun c_20 => ?_) (fun c_20 => ?_)
    · skip
      have hle : ¬ us S r + w ≤ 16 := Nat.not_le.mpr ((nI_ltI (by decide) (by omega)).mp c_20)
      exact look (by simp only [hc, Option.filter, decide_eq_false hle, if_false, Bool.false_eq_true])
    · skip
      refine r_aload_n 24 d_82_23 rfl rfl ?_
      refine r_getI 27 3 11 (nI r) d_82_24 rfl fk_3_43 rfl (m.cu.trans (by rw [hc]; rfl)) ?_
      refine r_ireturn d_82_27 rfl ?_
      have hle : us S r + w ≤ 16 := Nat.not_lt.mp (fun z => c_20 ((nI_ltI (by decide) (by omega)).mpr z))
      have e : edP S w = (some r, S) := by simp only [edP, hc, Option.filter, decide_eq_true hle, if_true]
      rw [e]
      exact ⟨rfl, m, MF.rf h⟩
theorem m_oldWithRoom {h : AH} {S : SS} {sg : Nat → Nat} (m : RM h S sg) (v : IV S) {w : Nat} (hw : w ≤ 8) : TT 83 0 [rv 3 (some 0), iv (nI w), un] [] h 0 0 (fun x h' => h' = h ∧ x = some (iv (ol (fst (oldR S w) 12 0)))) := by
  have b := v.bd
  have loop : ∀ n r, r + n = 12 → TT 83 2 [rv 3 (some 0), iv (nI w), iv (nI r)] [] h 0 0 (fun x h' => h' = h ∧ x = some (iv (ol (fst (oldR S w) n r)))) := by
    intro n
    induction n with
    | zero =>
      intro r hr
      obtain rfl : r = 12 := by omega
      refine r_iload_n 3 d_83_2 rfl rfl ?_
      refine r_bipush 5 (nI 12) d_83_3 rfl (by decide) ?_
      refine r_icmp_ge 39 8 d_83_5 (by decide) rfl (fun c_5 => ?_) (fun c_5 => absurd (nI_le (Nat.le_refl _) (by decide)) c_5)
      refine r_iconst 40 (-1) d_83_39 rfl (by decide) ?_
      refine r_ireturn d_83_40 rfl ?_
      exact ⟨rfl, rfl⟩
    | succ n ih =>
      intro r hr
      have hr12 : r < 12 := by omega
      have hk := b.kd hr12
      have hu := b.us hr12
      refine r_iload_n 3 d_83_2 rfl rfl ?_
      refine r_bipush 5 (nI 12) d_83_3 rfl (by decide) ?_
      refine r_icmp_ge 39 8 d_83_5 (by decide) rfl (fun c_5 => absurd c_5 (nI_ge hr12 (by decide))) (fun c_5 => ?_)
      refine r_aload_n 9 d_83_8 rfl rfl ?_
      refine r_getR 12 3 8 6 (some 8) d_83_9 rfl fk_3_34 rfl (by decide) (MT.f8 m.mt) ?_
      refine r_iload_n 13 d_83_12 rfl rfl ?_
      refine r_iald 14 r (nI (kd S r)) d_83_13 rfl rfl (MT.l6_8 m.mt hr12) (m.kd hr12) ?_
      refine r_iconst 15 (nI 3) d_83_14 rfl (by decide) ?_
      refine r_icmp_ne 33 18 d_83_15 (by decide) rfl (fun c_15 => ?_) (fun c_15 => ?_)
      · skip
        refine r_iinc 36 (nI (r + 1)) [rv 3 (some 0), iv (nI w), iv (nI (r + 1))] d_83_33 rfl rfl (nI_1 r) rfl rfl ?_
        refine r_goto 2 d_83_36 (by decide) ?_
        have z := ih (r + 1) (by omega)
        rw [fst, if_neg]
        · exact z
        · first | (rw [oldR, isk_f c_15]; exact Bool.false_ne_true) | (rw [oldR, decide_eq_false (Nat.not_le.mpr ((nI_ltI (by decide) (by omega)).mp c_28)), Bool.and_false]; exact Bool.false_ne_true)
      · skip
        refine r_aload_n 19 d_83_18 rfl rfl ?_
        refine r_getR 22 3 9 6 (some 9) d_83_19 rfl fk_3_37 rfl (by decide) (MT.f9 m.mt) ?_
        refine r_iload_n 23 d_83_22 rfl rfl ?_
        refine r_iald 24 r (nI (us S r)) d_83_23 rfl rfl (MT.l6_9 m.mt hr12) (m.us hr12) ?_
        refine r_iload_n 25 d_83_24 rfl rfl ?_
        refine r_iadd 26 (nI ((us S r) + w)) d_83_25 rfl (nI_add (us S r) w) ?_
        refine r_bipush 28 (nI 16) d_83_26 rfl (by decide) ?_
        refine r_icmp_gt 33 31 d_83_28 (by decide) rfl (fun c_28 => ?_) (fun c_28 => ?_)
        · skip
          refine r_iinc 36 (nI (r + 1)) [rv 3 (some 0), iv (nI w), iv (nI (r + 1))] d_83_33 rfl rfl (nI_1 r) rfl rfl ?_
          refine r_goto 2 d_83_36 (by decide) ?_
          have z := ih (r + 1) (by omega)
          rw [fst, if_neg]
          · exact z
          · first | (rw [oldR, isk_f c_15]; exact Bool.false_ne_true) | (rw [oldR, decide_eq_false (Nat.not_le.mpr ((nI_ltI (by decide) (by omega)).mp c_28)), Bool.and_false]; exact Bool.false_ne_true)
        · skip
          refine r_iload_n 32 d_83_31 rfl rfl ?_
          refine r_ireturn d_83_32 rfl ?_
          refine ⟨rfl, ?_⟩
          rw [fst, if_pos (by rw [oldR, isk_t b hr12 (by decide) c_15, decide_eq_true (Nat.not_lt.mp (fun z => c_28 ((nI_ltI (by decide) (by omega)).mpr z)))]; rfl)]
          rfl
  refine r_iconst 1 (nI 0) d_83_0 rfl (by decide) ?_
  refine r_istore_n 2 [rv 3 (some 0), iv (nI w), iv (nI 0)] d_83_1 rfl rfl rfl ?_
  exact loop 12 0 rfl
theorem lfr_min {p : Nat → Bool} {nd : Nat} (hnd : 0 < nd) : ∀ n r run j, run ≤ r → run < nd → r - run ≤ j → j + nd ≤ r + n → (∀ q, j ≤ q → q < j + nd → p q = true) → ∃ i, lfr p nd n r run = some i ∧ i ≤ j
  | 0, r, run, j, h1, h2, h3, h4, _ => by omega
  | n + 1, r, run, j, h1, h2, h3, h4, h5 => by
    rw [lfr]
    by_cases e : p r = true
    · rw [if_pos e]
      by_cases e2 : run + 1 = nd
      · rw [if_pos e2]
        exact ⟨_, rfl, by omega⟩
      · rw [if_neg e2]
        exact lfr_min hnd n (r + 1) (run + 1) j (by omega) (by omega) (by omega) (by omega) h5
    · rw [if_neg e, if_neg (by omega)]
      refine lfr_min hnd n (r + 1) 0 j (by omega) (by omega) ?_ (by omega) h5
      rcases Nat.lt_or_ge r j with q | q
      · omega
      · exact absurd (h5 r q (by omega)) e
def alb (p : Nat → Bool) (r : Nat) : Nat → Bool
  | 0 => true
  | n + 1 => alb p r n && p (r + n)
theorem alb_iff {p : Nat → Bool} {r : Nat} : ∀ n, alb p r n = true ↔ ∀ q, r ≤ q → q < r + n → p q = true
  | 0 => ⟨fun _ q h1 h2 => by omega, fun _ => rfl⟩
  | n + 1 => by
    rw [alb, Bool.and_eq_true, alb_iff n]
    constructor
    · rintro ⟨h1, h2⟩ q hq hq2
      rcases Nat.lt_or_ge q (r + n) with e | e
      · exact h1 q hq e
      · rw [show q = r + n by omega]; exact h2
    · intro h
      exact ⟨fun q hq hq2 => h q hq (by omega), h (r + n) (by omega) (by omega)⟩
theorem m_side {h : AH} {S : SS} {sg : Nat → Nat} (m : RM h S sg) (v : IV S) {nd : Nat} (hnd : 0 < nd) (hnd3 : nd ≤ 3) : TT 85 0 [rv 3 (some 0), iv (nI nd), un, un, un] [] h 0 0 (fun x h' => h' = h ∧ x = some (iv (ol (lfr (isk S 0) nd 12 0 0)))) := by
  have b := v.bd
  have loop : ∀ n r u u', r + n = 13 - nd → (∀ j, j < r → ¬ ∀ q, j ≤ q → q < j + nd → isk S 0 q = true) → TT 85 2 [rv 3 (some 0), iv (nI nd), iv (nI r), u, u'] [] h 0 0 (fun x h' => h' = h ∧ x = some (iv (ol (lfr (isk S 0) nd 12 0 0)))) := by
    intro n
    induction n with
    | zero =>
      intro r u u' hr hno
      refine TT.forget 3 (ls' := [rv 3 (some 0), iv (nI nd), iv (nI r), un, u']) rfl ?_
      refine TT.forget 4 (ls' := [rv 3 (some 0), iv (nI nd), iv (nI r), un, un]) rfl ?_
      have e : lfr (isk S 0) nd 12 0 0 = none := by
        cases e : lfr (isk S 0) nd 12 0 0 with
        | none => rfl
        | some j =>
          obtain ⟨h1, h2⟩ := lfr_run 12 0 0 j e (Nat.le_refl _) (fun q h1 h2 => by omega) hnd
          exact absurd h2 (hno j (by omega))
      rw [e]
      refine r_iload_n 3 d_85_2 rfl rfl ?_
      refine r_iload_n 4 d_85_3 rfl rfl ?_
      refine r_iadd 5 (nI (r + nd)) d_85_4 rfl (nI_add r nd) ?_
      refine r_bipush 7 (nI 12) d_85_5 rfl (by decide) ?_
      refine r_icmp_gt 61 10 d_85_7 (by decide) rfl (fun c_7 => ?_) (fun c_7 => absurd (nI_lt (by omega) (by omega)) c_7)
      refine r_iconst 62 (-1) d_85_61 rfl (by decide) ?_
      refine r_ireturn d_85_62 rfl ?_
      exact ⟨rfl, rfl⟩
    | succ n ih =>
      intro r u u' hr hno
      refine TT.forget 3 (ls' := [rv 3 (some 0), iv (nI nd), iv (nI r), un, u']) rfl ?_
      refine TT.forget 4 (ls' := [rv 3 (some 0), iv (nI nd), iv (nI r), un, un]) rfl ?_
      have inner : ∀ k i, i + k = nd → TT 85 15 [rv 3 (some 0), iv (nI nd), iv (nI r), iv (bI (alb (isk S 0) r i)), iv (nI (r + i))] [] h 0 0 (fun x h' => h' = h ∧ x = some (iv (ol (lfr (isk S 0) nd 12 0 0)))) := by
        intro k
        induction k with
        | zero =>
          intro i hi
          obtain rfl : i = nd := by omega
          refine r_iload 17 d_85_15 rfl rfl ?_
          refine r_iload_n 18 d_85_17 rfl rfl ?_
          refine r_iload_n 19 d_85_18 rfl rfl ?_
          refine r_iadd 20 (nI (r + i)) d_85_19 rfl (nI_add r i) ?_
          refine r_icmp_ge 49 23 d_85_20 (by decide) rfl (fun c_20 => ?_) (fun c_20 => absurd (nI_le (by omega) (by omega)) c_20)
          refine r_iload_n 50 d_85_49 rfl rfl ?_
          refine r_if_eq 55 53 d_85_50 (by decide) rfl (fun c_50 => ?_) (fun c_50 => ?_)
          · skip
            refine r_iinc 58 (nI (r + 1)) [rv 3 (some 0), iv (nI i), iv (nI (r + 1)), iv (bI (alb (isk S 0) r i)), iv (nI (r + i))] d_85_55 rfl rfl (nI_1 r) rfl rfl ?_
            refine r_goto 2 d_85_58 (by decide) ?_
            refine ih (r + 1) _ _ (by omega) (fun j hj => ?_)
            rcases Nat.lt_or_ge j r with q | q
            · exact hno j q
            · obtain rfl : j = r := by omega
              intro z
              have := bI_0 c_50
              rw [(alb_iff i).mpr z] at this
              cases this
          · skip
            refine r_iload_n 54 d_85_53 rfl rfl ?_
            refine r_ireturn d_85_54 rfl ?_
            have ha := (alb_iff i).mp (bI_1 c_50)
            obtain ⟨j, hj, hle⟩ := lfr_min hnd 12 0 0 r (Nat.le_refl _) hnd (by omega) (by omega) ha
            obtain ⟨-, h2⟩ := lfr_run 12 0 0 j hj (Nat.le_refl _) (fun q h1 h2 => by omega) hnd
            have hnl : ¬ j < r := fun z => hno j z h2
            obtain rfl : j = r := by omega
            rw [hj]
            exact ⟨rfl, rfl⟩
        | succ k ihk =>
          intro i hi
          have hb : r + i < 12 := by omega
          have hk := b.kd hb
          have z := ihk (i + 1) (by omega)
          refine r_iload 17 d_85_15 rfl rfl ?_
          refine r_iload_n 18 d_85_17 rfl rfl ?_
          refine r_iload_n 19 d_85_18 rfl rfl ?_
          refine r_iadd 20 (nI (r + nd)) d_85_19 rfl (nI_add r nd) ?_
          refine r_icmp_ge 49 23 d_85_20 (by decide) rfl (fun c_20 => absurd c_20 (nI_ge (by omega) (by omega))) (fun c_20 => ?_)
          refine r_iload_n 24 d_85_23 rfl rfl ?_
          refine r_if_eq 41 27 d_85_24 (by decide) rfl (fun c_24 => ?_) (fun c_24 => ?_)
          · skip
            refine r_iconst 42 (nI 0) d_85_41 rfl (by decide) ?_
            refine r_istore_n 43 [rv 3 (some 0), iv (nI nd), iv (nI r), iv (nI 0), iv (nI (r + i))] d_85_42 rfl rfl rfl ?_
            refine r_iinc 46 (nI (r + i + 1)) [rv 3 (some 0), iv (nI nd), iv (nI r), iv (nI 0), iv (nI (r + i + 1))] d_85_43 rfl rfl (nI_1 (r + i)) rfl rfl ?_
            refine r_goto 15 d_85_46 (by decide) ?_
            first
            | (rw [alb, bI_0 c_24, Bool.false_and] at z; exact z)
            | (rw [alb, isk_f c_34, Bool.and_false] at z; exact z)
            | (rw [alb, bI_1 c_24, isk_t b hb (by decide) c_34] at z; exact z)
          · skip
            refine r_aload_n 28 d_85_27 rfl rfl ?_
            refine r_getR 31 3 8 6 (some 8) d_85_28 rfl fk_3_34 rfl (by decide) (MT.f8 m.mt) ?_
            refine r_iload 33 d_85_31 rfl rfl ?_
            refine r_iald 34 (r + i) (nI (kd S (r + i))) d_85_33 rfl rfl (MT.l6_8 m.mt hb) (m.kd hb) ?_
            refine r_if_ne 41 37 d_85_34 (by decide) rfl (fun c_34 => ?_) (fun c_34 => ?_)
            · skip
              refine r_iconst 42 (nI 0) d_85_41 rfl (by decide) ?_
              refine r_istore_n 43 [rv 3 (some 0), iv (nI nd), iv (nI r), iv (nI 0), iv (nI (r + i))] d_85_42 rfl rfl rfl ?_
              refine r_iinc 46 (nI (r + i + 1)) [rv 3 (some 0), iv (nI nd), iv (nI r), iv (nI 0), iv (nI (r + i + 1))] d_85_43 rfl rfl (nI_1 (r + i)) rfl rfl ?_
              refine r_goto 15 d_85_46 (by decide) ?_
              first
              | (rw [alb, bI_0 c_24, Bool.false_and] at z; exact z)
              | (rw [alb, isk_f c_34, Bool.and_false] at z; exact z)
              | (rw [alb, bI_1 c_24, isk_t b hb (by decide) c_34] at z; exact z)
            · skip
              refine r_iconst 38 (nI 1) d_85_37 rfl (by decide) ?_
              refine r_goto 42 d_85_38 (by decide) ?_
              refine r_istore_n 43 [rv 3 (some 0), iv (nI nd), iv (nI r), iv (nI 1), iv (nI (r + i))] d_85_42 rfl rfl rfl ?_
              refine r_iinc 46 (nI (r + i + 1)) [rv 3 (some 0), iv (nI nd), iv (nI r), iv (nI 1), iv (nI (r + i + 1))] d_85_43 rfl rfl (nI_1 (r + i)) rfl rfl ?_
              refine r_goto 15 d_85_46 (by decide) ?_
              first
              | (rw [alb, bI_0 c_24, Bool.false_and] at z; exact z)
              | (rw [alb, isk_f c_34, Bool.and_false] at z; exact z)
              | (rw [alb, bI_1 c_24, isk_t b hb (by decide) c_34] at z; exact z)
      refine r_iload_n 3 d_85_2 rfl rfl ?_
      refine r_iload_n 4 d_85_3 rfl rfl ?_
      refine r_iadd 5 (nI (r + nd)) d_85_4 rfl (nI_add r nd) ?_
      refine r_bipush 7 (nI 12) d_85_5 rfl (by decide) ?_
      refine r_icmp_gt 61 10 d_85_7 (by decide) rfl (fun c_7 => absurd c_7 (nI_nlt (by omega) (by decide))) (fun c_7 => ?_)
      refine r_iconst 11 (nI 1) d_85_10 rfl (by decide) ?_
      refine r_istore_n 12 [rv 3 (some 0), iv (nI nd), iv (nI r), iv (nI 1), un] d_85_11 rfl rfl rfl ?_
      refine r_iload_n 13 d_85_12 rfl rfl ?_
      refine r_istore 15 [rv 3 (some 0), iv (nI nd), iv (nI r), iv (nI 1), iv (nI r)] d_85_13 rfl rfl rfl ?_
      exact inner nd 0 (by omega)
  refine r_iconst 1 (nI 0) d_85_0 rfl (by decide) ?_
  refine r_istore_n 2 [rv 3 (some 0), iv (nI nd), iv (nI 0), un, un] d_85_1 rfl rfl rfl ?_
  exact loop (13 - nd) 0 un un (by omega) (fun j hj => absurd hj (Nat.not_lt_zero j))
