/-! the order in which old regions come -/
theorem inc_leV {S : SS} (v : IV S) (r : Nat) : inc S r ≤ 288 := by
  unfold inc
  have h := smf_le (f := inR S r) (k := 24) 12 (fun r' hr' => by
    unfold inR
    split
    · omega
    · have h1 := fsum_le (S := S) (r := r) (itm S r') (fun o ho => v.bd.fd (v.2.2.2.2.2.1 o (mem_all.mpr ⟨r', hr', ho⟩)))
      have h2 := v.bd.it hr'
      omega)
  omega
theorem gc_leV {S : SS} (v : IV S) {r q : Nat} (hr : r < 12) (hq : q < 12) : gb S r * cst S q ≤ 64 * 305 := by
  refine Nat.mul_le_mul ?_ ?_
  · have := v.bd.us hr; unfold gb; omega
  · have := inc_leV v q; have := lv0_le v.bd hq; unfold cst; omega
def xx (S : SS) (a b : Nat) : Nat := gb S a * cst S b
theorem cb_iff {S : SS} {a b : Nat} : cb S a b = true ↔ xx S b a < xx S a b ∨ (xx S a b = xx S b a ∧ a < b) := by
  unfold cb xx
  simp
theorem cst_pos (S : SS) (r : Nat) : 0 < cst S r := by unfold cst; omega
theorem xx_tr {S : SS} {a b c : Nat} (h1 : xx S b a ≤ xx S a b) (h2 : xx S c b ≤ xx S b c) : xx S c a ≤ xx S a c := by
  unfold xx at *
  apply Nat.le_of_mul_le_mul_right (c := cst S b) _ (cst_pos S b)
  calc gb S c * cst S a * cst S b = (gb S c * cst S b) * cst S a := by ac_rfl
    _ ≤ (gb S b * cst S c) * cst S a := Nat.mul_le_mul_right _ h2
    _ = (gb S b * cst S a) * cst S c := by ac_rfl
    _ ≤ (gb S a * cst S b) * cst S c := Nat.mul_le_mul_right _ h1
    _ = gb S a * cst S c * cst S b := by ac_rfl
theorem cb_tr {S : SS} {a b c : Nat} (h1 : cb S a b = true) (h2 : cb S b c = true) : cb S a c = true := by
  rw [cb_iff] at *
  have e1 : xx S b a ≤ xx S a b := by omega
  have e2 : xx S c b ≤ xx S b c := by omega
  have e3 := xx_tr e1 e2
  by_cases e : xx S a c ≤ xx S c a
  · have e4 := xx_tr e e1
    have e5 := xx_tr e2 e
    omega
  · omega
theorem cb_tot {S : SS} {a b : Nat} (h : a ≠ b) (h1 : ¬ cb S a b = true) : cb S b a = true := by
  rw [cb_iff] at *
  omega
theorem cb_ir {S : SS} {a : Nat} : ¬ cb S a a = true := by
  rw [cb_iff]
  omega
def btb (S : SS) (r : Nat) (b : Option Nat) : Bool := match b with
  | none => true
  | some q => cb S r q
theorem bst_s {S : SS} {k : Nat → Bool} {n r : Nat} {b : Option Nat} : bst S k (n + 1) r b = bst S k n (r + 1) (if (k r && btb S r b) = true then some r else b) := by cases b <;> rfl
/-- the best comes before the others -/
theorem bst_min {S : SS} {k : Nat → Bool} : ∀ n r b q, bst S k n r b = some q → (∀ x, b = some x → q = x ∨ cb S q x = true) ∧ ∀ x, r ≤ x → x < r + n → k x = true → q = x ∨ cb S q x = true
  | 0, r, b, q, h => ⟨fun x hx => by rw [bst] at h; rw [hx] at h; exact Or.inl (Option.some.inj h).symm, fun x h1 h2 => by omega⟩
  | n + 1, r, b, q, h => by
    rw [bst_s] at h
    cases b with
    | none =>
      by_cases e : (k r && btb S r none) = true
      · rw [if_pos e] at h
        obtain ⟨h1, h2⟩ := bst_min n (r + 1) _ q h
        refine ⟨fun x hx => (by cases hx), fun x a1 a2 a3 => ?_⟩
        rcases Nat.lt_or_ge r x with z | z
        · exact h2 x z (by omega) a3
        · obtain rfl : x = r := by omega
          exact h1 x rfl
      · rw [if_neg e] at h
        obtain ⟨h1, h2⟩ := bst_min n (r + 1) _ q h
        refine ⟨fun x hx => (by cases hx), fun x a1 a2 a3 => ?_⟩
        rcases Nat.lt_or_ge r x with z | z
        · exact h2 x z (by omega) a3
        · obtain rfl : x = r := by omega
          exact absurd (by rw [a3]; rfl) e
    | some p =>
      by_cases e : (k r && btb S r (some p)) = true
      · rw [if_pos e] at h
        have e : k r = true ∧ cb S r p = true := by rw [Bool.and_eq_true] at e; exact e
        obtain ⟨h1, h2⟩ := bst_min n (r + 1) _ q h
        refine ⟨fun x hx => ?_, fun x a1 a2 a3 => ?_⟩
        · cases hx
          rcases h1 r rfl with z | z
          · rw [z]; exact Or.inr e.2
          · exact Or.inr (cb_tr z e.2)
        · rcases Nat.lt_or_ge r x with z | z
          · exact h2 x z (by omega) a3
          · obtain rfl : x = r := by omega
            exact h1 x rfl
      · rw [if_neg e] at h
        obtain ⟨h1, h2⟩ := bst_min n (r + 1) _ q h
        refine ⟨h1, fun x a1 a2 a3 => ?_⟩
        rcases Nat.lt_or_ge r x with z | z
        · exact h2 x z (by omega) a3
        · obtain rfl : x = r := by omega
          have e2 : ¬ cb S x p = true := fun y => e (by rw [a3]; exact y)
          by_cases exp : x = p
          · rw [exp]; exact h1 p rfl
          · have e3 := cb_tot exp e2
            rcases h1 p rfl with y | y
            · rw [y]; exact Or.inr e3
            · exact Or.inr (cb_tr y e3)
theorem bst_cg {S : SS} {k k' : Nat → Bool} : ∀ n r b, (∀ x, r ≤ x → x < r + n → k x = k' x) → bst S k n r b = bst S k' n r b
  | 0, _, _, _ => rfl
  | n + 1, r, b, h => by
    rw [bst_s, bst_s, h r (Nat.le_refl _) (by omega)]
    exact bst_cg n (r + 1) _ (fun x h1 h2 => h x (by omega) (by omega))
/-- candidates that come behind bf -/
def kb (S : SS) (bf : Option Nat) (r : Nat) : Bool := cand S r && (match bf with
  | none => true
  | some p => cb S p r)
theorem kb_up {S : SS} {bf : Option Nat} {k : Nat → Bool} {q : Nat} (hk : ∀ r, r < 12 → k r = kb S bf r) (hq12 : q < 12) (hq : bst S k 12 0 none = some q) : ∀ r, r < 12 → va_up k q false r = kb S (some q) r := by
  intro r hr
  have hm := (bst_min 12 0 none q hq).2
  have hkq := (bst_ok 12 0 none (fun q hq => by cases hq) (by decide) q hq).2
  by_cases e : r = q
  · subst e
    rw [va_up_self]
    symm
    unfold kb
    simp only
    rw [show cb S r r = false from Bool.eq_false_iff.mpr cb_ir, Bool.and_false]
  · rw [va_up_ne _ _ e, hk r hr]
    rw [hk q hq12] at hkq
    unfold kb at hkq ⊢
    rw [Bool.and_eq_true] at hkq
    by_cases ec : cand S r = true
    · rw [ec, Bool.true_and, Bool.true_and]
      cases bf with
      | none =>
        simp only
        symm
        have := hm r (Nat.zero_le _) (by omega) (by rw [hk r hr]; unfold kb; rw [ec]; rfl)
        rcases this with z | z
        · exact absurd z.symm e
        · exact z
      | some p =>
        simp only at hkq ⊢
        by_cases ep : cb S p r = true
        · rw [ep]
          symm
          have := hm r (Nat.zero_le _) (by omega) (by rw [hk r hr]; unfold kb; simp only [ec, ep, Bool.and_self])
          rcases this with z | z
          · exact absurd z.symm e
          · exact z
        · rw [Bool.eq_false_iff.mpr ep]
          symm
          exact Bool.eq_false_iff.mpr (fun z => ep (cb_tr hkq.2 z))
    · rw [Bool.eq_false_iff.mpr ec, Bool.false_and, Bool.false_and]
theorem cand_ok {S : SS} {r : Nat} (h : cand S r = true) : kd S r = 3 ∧ lw S r = some (lv0 S r) ∧ lv0 S r < us S r := by
  unfold cand at h
  rw [Bool.and_eq_true, Bool.and_eq_true] at h
  refine ⟨of_decide_eq_true h.1, ?_, of_decide_eq_true h.2.2⟩
  obtain ⟨x, hx⟩ := Option.isSome_iff_exists.mp h.2.1
  unfold lv0
  rw [hx]
  rfl
/-! contracts of the reference: choosing -/
theorem m_first {h : AH} {S : SS} {sg : Nat → Nat} (m : RM h S sg) (v : IV S) {a b : Nat} (ha : a < 12) (hb : b < 12) (ca : cand S a = true) (cb_ : cand S b = true) : TT 70 0 [rv 3 (some 0), iv (nI a), iv (nI b), un, un] [] h 0 0 (fun x h' => h' = h ∧ x = some (iv (bI (cb S a b)))) := by
  obtain ⟨-, la, ua⟩ := cand_ok ca
  obtain ⟨-, lb, ub⟩ := cand_ok cb_
  have hla : hI h 6 10 a = nI (lv0 S a) := (m.lw ha).trans (by rw [la]; rfl)
  have hlb : hI h 6 10 b = nI (lv0 S b) := (m.lw hb).trans (by rw [lb]; rfl)
  have g1 : gb S a * cst S b ≤ 19520 := gc_leV v ha hb
  have g2 : gb S b * cst S a ≤ 19520 := gc_leV v hb ha
  have q : ∀ z : Bool, z = cb S a b → (fun (x : Option AV) h' => h' = h ∧ x = some (iv (bI (cb S a b)))) (some (iv (bI z))) h := fun z hz => ⟨rfl, by rw [hz]⟩
  refine r_aload_n 1 d_70_0 rfl rfl ?_
  refine r_getR 4 3 9 6 (some 9) d_70_1 rfl fk_3_37 rfl (by decide) (MT.f9 m.mt) ?_
  refine r_iload_n 5 d_70_4 rfl rfl ?_
  refine r_iald 6 a (nI (us S a)) d_70_5 rfl rfl (MT.l6_9 m.mt ha) (m.us ha) ?_
  refine r_aload_n 7 d_70_6 rfl rfl ?_
  refine r_getR 10 3 10 6 (some 10) d_70_7 rfl fk_3_40 rfl (by decide) (MT.f10 m.mt) ?_
  refine r_iload_n 11 d_70_10 rfl rfl ?_
  refine r_iald 12 a (nI (lv0 S a)) d_70_11 rfl rfl (MT.l6_10 m.mt ha) hla ?_
  refine r_isub 13 (nI (gb S a)) d_70_12 rfl (pk_sub (Nat.le_of_lt ua)) ?_
  refine r_iconst 14 (nI 1) d_70_13 rfl (by decide) ?_
  refine r_aload_n 15 d_70_14 rfl rfl ?_
  refine r_getR 18 3 10 6 (some 10) d_70_15 rfl fk_3_40 rfl (by decide) (MT.f10 m.mt) ?_
  refine r_iload_n 19 d_70_18 rfl rfl ?_
  refine r_iald 20 b (nI (lv0 S b)) d_70_19 rfl rfl (MT.l6_10 m.mt hb) hlb ?_
  refine r_iadd 21 (nI (1 + (lv0 S b))) d_70_20 rfl (nI_add 1 (lv0 S b)) ?_
  refine r_aload_n 22 d_70_21 rfl rfl ?_
  refine r_iload_n 23 d_70_22 rfl rfl ?_
  refine r_callV (k1 := 0) (n1 := 0) (k := 0) (n := 0) 26 68 3 [iv (nI b)] d_70_23 rfl mk_68 lk_3_88 mv_68 rfl rfl rfl rfl rfl _ (m_incomingOf m v hb) ?_
  intro r_23 h_23 q_23
  obtain ⟨q1, q2⟩ := q_23
  subst q2
  rw [q1]
  show TT 70 26 [rv 3 (some 0), iv (nI a), iv (nI b), un, un] [iv (nI (inc S b)), iv (nI (1 + (lv0 S b))), iv (nI (gb S a))] h _ _ _
  refine r_iadd 27 (nI (cst S b)) d_70_26 rfl (nI_add _ _) ?_
  refine r_imul 28 (nI (gb S a * cst S b)) d_70_27 rfl (pk_mul _ _) ?_
  refine r_istore_n 29 [rv 3 (some 0), iv (nI a), iv (nI b), iv (nI (gb S a * cst S b)), un] d_70_28 rfl rfl rfl ?_
  refine r_aload_n 30 d_70_29 rfl rfl ?_
  refine r_getR 33 3 9 6 (some 9) d_70_30 rfl fk_3_37 rfl (by decide) (MT.f9 m.mt) ?_
  refine r_iload_n 34 d_70_33 rfl rfl ?_
  refine r_iald 35 b (nI (us S b)) d_70_34 rfl rfl (MT.l6_9 m.mt hb) (m.us hb) ?_
  refine r_aload_n 36 d_70_35 rfl rfl ?_
  refine r_getR 39 3 10 6 (some 10) d_70_36 rfl fk_3_40 rfl (by decide) (MT.f10 m.mt) ?_
  refine r_iload_n 40 d_70_39 rfl rfl ?_
  refine r_iald 41 b (nI (lv0 S b)) d_70_40 rfl rfl (MT.l6_10 m.mt hb) hlb ?_
  refine r_isub 42 (nI (gb S b)) d_70_41 rfl (pk_sub (Nat.le_of_lt ub)) ?_
  refine r_iconst 43 (nI 1) d_70_42 rfl (by decide) ?_
  refine r_aload_n 44 d_70_43 rfl rfl ?_
  refine r_getR 47 3 10 6 (some 10) d_70_44 rfl fk_3_40 rfl (by decide) (MT.f10 m.mt) ?_
  refine r_iload_n 48 d_70_47 rfl rfl ?_
  refine r_iald 49 a (nI (lv0 S a)) d_70_48 rfl rfl (MT.l6_10 m.mt ha) hla ?_
  refine r_iadd 50 (nI (1 + (lv0 S a))) d_70_49 rfl (nI_add 1 (lv0 S a)) ?_
  refine r_aload_n 51 d_70_50 rfl rfl ?_
  refine r_iload_n 52 d_70_51 rfl rfl ?_
  refine r_callV (k1 := 0) (n1 := 0) (k := 0) (n := 0) 55 68 3 [iv (nI a)] d_70_52 rfl mk_68 lk_3_88 mv_68 rfl rfl rfl rfl rfl _ (m_incomingOf m v ha) ?_
  intro r_52 h_52 q_52
  obtain ⟨q1, q2⟩ := q_52
  subst q2
  rw [q1]
  show TT 70 55 [rv 3 (some 0), iv (nI a), iv (nI b), iv (nI (gb S a * cst S b)), un] [iv (nI (inc S a)), iv (nI (1 + (lv0 S a))), iv (nI (gb S b))] h _ _ _
  refine r_iadd 56 (nI (cst S a)) d_70_55 rfl (nI_add _ _) ?_
  refine r_imul 57 (nI (gb S b * cst S a)) d_70_56 rfl (pk_mul _ _) ?_
  refine r_istore 59 [rv 3 (some 0), iv (nI a), iv (nI b), iv (nI (gb S a * cst S b)), iv (nI (gb S b * cst S a))] d_70_57 rfl rfl rfl ?_
  refine r_iload_n 60 d_70_59 rfl rfl ?_
  refine r_iload 62 d_70_60 rfl rfl ?_
  refine r_icmp_gt 76 65 d_70_62 (by decide) rfl (fun c_62 => ?_) (fun c_62 => ?_)
  · skip
    refine r_iconst 77 (nI 1) d_70_76 rfl (by decide) ?_
    refine r_goto 81 d_70_77 (by decide) ?_
    refine r_zreturn d_70_81 rfl rfl ?_
    first
    | (refine q true ?_; symm; unfold cb; rw [decide_eq_true ((nI_ltI (by omega) (by omega)).mp c_62)]; rfl)
    | (refine q true ?_; symm; unfold cb; rw [decide_eq_true ((nI_eq (by omega) (by omega)).mp c_68), decide_eq_true (Nat.not_le.mp (fun z => c_73 ((nI_leI (by omega) (by omega)).mpr z))), Bool.and_self, Bool.or_true])
    | (refine q false ?_; symm; unfold cb; rw [decide_eq_false (fun z => c_62 ((nI_ltI (by omega) (by omega)).mpr z)), decide_eq_false (fun z => c_68 (by rw [z])), Bool.false_and]; rfl)
    | (refine q false ?_; symm; unfold cb; rw [decide_eq_false (fun z => c_62 ((nI_ltI (by omega) (by omega)).mpr z)), decide_eq_false (Nat.not_lt.mpr ((nI_leI (by omega) (by omega)).mp c_73)), Bool.and_false]; rfl)
  · skip
    refine r_iload_n 66 d_70_65 rfl rfl ?_
    refine r_iload 68 d_70_66 rfl rfl ?_
    refine r_icmp_ne 80 71 d_70_68 (by decide) rfl (fun c_68 => ?_) (fun c_68 => ?_)
    · skip
      refine r_iconst 81 (nI 0) d_70_80 rfl (by decide) ?_
      refine r_zreturn d_70_81 rfl rfl ?_
      first
      | (refine q true ?_; symm; unfold cb; rw [decide_eq_true ((nI_ltI (by omega) (by omega)).mp c_62)]; rfl)
      | (refine q true ?_; symm; unfold cb; rw [decide_eq_true ((nI_eq (by omega) (by omega)).mp c_68), decide_eq_true (Nat.not_le.mp (fun z => c_73 ((nI_leI (by omega) (by omega)).mpr z))), Bool.and_self, Bool.or_true])
      | (refine q false ?_; symm; unfold cb; rw [decide_eq_false (fun z => c_62 ((nI_ltI (by omega) (by omega)).mpr z)), decide_eq_false (fun z => c_68 (by rw [z])), Bool.false_and]; rfl)
      | (refine q false ?_; symm; unfold cb; rw [decide_eq_false (fun z => c_62 ((nI_ltI (by omega) (by omega)).mpr z)), decide_eq_false (Nat.not_lt.mpr ((nI_leI (by omega) (by omega)).mp c_73)), Bool.and_false]; rfl)
    · skip
      refine r_iload_n 72 d_70_71 rfl rfl ?_
      refine r_iload_n 73 d_70_72 rfl rfl ?_
      refine r_icmp_ge 80 76 d_70_73 (by decide) rfl (fun c_73 => ?_) (fun c_73 => ?_)
      · skip
        refine r_iconst 81 (nI 0) d_70_80 rfl (by decide) ?_
        refine r_zreturn d_70_81 rfl rfl ?_
        first
        | (refine q true ?_; symm; unfold cb; rw [decide_eq_true ((nI_ltI (by omega) (by omega)).mp c_62)]; rfl)
        | (refine q true ?_; symm; unfold cb; rw [decide_eq_true ((nI_eq (by omega) (by omega)).mp c_68), decide_eq_true (Nat.not_le.mp (fun z => c_73 ((nI_leI (by omega) (by omega)).mpr z))), Bool.and_self, Bool.or_true])
        | (refine q false ?_; symm; unfold cb; rw [decide_eq_false (fun z => c_62 ((nI_ltI (by omega) (by omega)).mpr z)), decide_eq_false (fun z => c_68 (by rw [z])), Bool.false_and]; rfl)
        | (refine q false ?_; symm; unfold cb; rw [decide_eq_false (fun z => c_62 ((nI_ltI (by omega) (by omega)).mpr z)), decide_eq_false (Nat.not_lt.mpr ((nI_leI (by omega) (by omega)).mp c_73)), Bool.and_false]; rfl)
      · skip
        refine r_iconst 77 (nI 1) d_70_76 rfl (by decide) ?_
        refine r_goto 81 d_70_77 (by decide) ?_
        refine r_zreturn d_70_81 rfl rfl ?_
        first
        | (refine q true ?_; symm; unfold cb; rw [decide_eq_true ((nI_ltI (by omega) (by omega)).mp c_62)]; rfl)
        | (refine q true ?_; symm; unfold cb; rw [decide_eq_true ((nI_eq (by omega) (by omega)).mp c_68), decide_eq_true (Nat.not_le.mp (fun z => c_73 ((nI_leI (by omega) (by omega)).mpr z))), Bool.and_self, Bool.or_true])
        | (refine q false ?_; symm; unfold cb; rw [decide_eq_false (fun z => c_62 ((nI_ltI (by omega) (by omega)).mpr z)), decide_eq_false (fun z => c_68 (by rw [z])), Bool.false_and]; rfl)
        | (refine q false ?_; symm; unfold cb; rw [decide_eq_false (fun z => c_62 ((nI_ltI (by omega) (by omega)).mpr z)), decide_eq_false (Nat.not_lt.mpr ((nI_leI (by omega) (by omega)).mp c_73)), Bool.and_false]; rfl)
