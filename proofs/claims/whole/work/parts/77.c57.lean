/-! both sides answer a call alike -/
def JO (yc ym : Nat) (lc lm : List AV) (h : AH) (S : SS) (sg : Nat → Nat) : Prop := ∃ A S', IV S' ∧ TT yc 0 lc [] h 2 10 (fun x h' => x = some (iv A) ∧ RC h' S' ∧ CF h h') ∧ ∀ h', RM h' S sg → TT ym 0 lm [] h' 0 0 (fun x h'' => x = some (iv A) ∧ (∃ sg', RM h'' S' sg') ∧ MF h' h'')
theorem jo_q {yc ym : Nat} {lc lm : List AV} {h : AH} {S : SS} {sg : Nat → Nat} {A : Int32} (c : RC h S) (v : IV S) (hC : TT yc 0 lc [] h 0 0 (fun x h' => h' = h ∧ x = some (iv A))) (hM : ∀ h', RM h' S sg → TT ym 0 lm [] h' 0 0 (fun x h'' => h'' = h' ∧ x = some (iv A))) : JO yc ym lc lm h S sg := by
  refine ⟨A, S, v, TT.widen (Nat.zero_le _) (Nat.zero_le _) (TT.mono ?_ hC), fun h' m => TT.mono ?_ (hM h' m)⟩
  · rintro x h' ⟨rfl, e⟩
    exact ⟨e, c, CF.rf _⟩
  · rintro x h'' ⟨rfl, e⟩
    exact ⟨e, ⟨sg, m⟩, MF.rf _⟩
section JOS
variable {h : AH} {S : SS} {sg : Nat → Nat}
theorem jo_make (c : RC h S) (v : IV S) (a b d : Int32) : JO 10 84 [rv 0 (some 0), iv a, iv b, iv d, un, un, un] [rv 3 (some 0), iv a, iv b, iv d, un, un, un] h S sg := by
  have bad : (ix 6 a = none ∨ ix 4 b = none ∨ ix 4 d = none) → JO 10 84 [rv 0 (some 0), iv a, iv b, iv d, un, un, un] [rv 3 (some 0), iv a, iv b, iv d, un, un, un] h S sg := fun hb => jo_q c v (c_make_bad a b d hb) (fun h' _ => m_make_bad a b d hb)
  cases e1 : ix 6 a with
  | none => exact bad (Or.inl e1)
  | some i =>
    cases e2 : ix 4 b with
    | none => exact bad (Or.inr (Or.inl e2))
    | some n =>
      cases e3 : ix 4 d with
      | none => exact bad (Or.inr (Or.inr e3))
      | some e =>
        obtain ⟨hi, rfl⟩ := ix_some (by decide) e1
        obtain ⟨hn, rfl⟩ := ix_some (by decide) e2
        obtain ⟨he, rfl⟩ := ix_some (by decide) e3
        exact ⟨mkA S (2 + n + e), mkT S (2 + n + e) n i, mkT_IV v ⟨by omega, by omega⟩ (by omega), k_make c v hi hn he, fun h' m => m_make m v hi hn he⟩
theorem jo_large (c : RC h S) (v : IV S) (a b d : Int32) : JO 11 86 [rv 0 (some 0), iv a, iv b, iv d, un, un, un] [rv 3 (some 0), iv a, iv b, iv d, un, un, un, un] h S sg := by
  have bad : (ix 6 a = none ∨ ix 4 b = none ∨ d < nI 9 ∨ nI 40 < d) → JO 11 86 [rv 0 (some 0), iv a, iv b, iv d, un, un, un] [rv 3 (some 0), iv a, iv b, iv d, un, un, un, un] h S sg := fun hb => jo_q c v (c_large_bad a b d hb) (fun h' _ => m_large_bad a b d hb)
  cases e1 : ix 6 a with
  | none => exact bad (Or.inl e1)
  | some i =>
    cases e2 : ix 4 b with
    | none => exact bad (Or.inr (Or.inl e2))
    | some n =>
      by_cases e3 : d < nI 9
      · exact bad (Or.inr (Or.inr (Or.inl e3)))
      · by_cases e4 : nI 40 < d
        · exact bad (Or.inr (Or.inr (Or.inr e4)))
        · obtain ⟨hi, rfl⟩ := ix_some (by decide) e1
          obtain ⟨hn, rfl⟩ := ix_some (by decide) e2
          obtain ⟨w, hw, rfl⟩ := nI_of (x := d) (fun z => e3 (by
            rw [Int32.lt_iff_toInt_lt] at z ⊢
            have e9 : (nI 9).toInt = 9 := by decide
            have e0 : (0 : Int32).toInt = 0 := by decide
            omega))
          have hw9 : 9 ≤ w := Nat.not_lt.mp (fun z => e3 ((nI_ltI hw (by decide)).mpr z))
          have hw40 : w ≤ 40 := Nat.not_lt.mp (fun z => e4 ((nI_ltI (by decide) hw).mpr z))
          exact ⟨lgA S w, lgT S w n i, lgT_IV v ⟨hw9, hw40⟩ (by omega), k_large c v hi hn hw9 hw40, fun h' m => m_large m v hi hn hw9 hw40⟩
theorem jo_link (c : RC h S) (v : IV S) (a b d : Int32) : JO 19 88 [rv 0 (some 0), iv a, iv b, iv d, un] [rv 3 (some 0), iv a, iv b, iv d] h S sg :=
  ⟨bI (lkO S a b d).isSome, lkS S a b d, lkS_IV v a b d, TT.widen (Nat.zero_le _) (Nat.zero_le _) (c_link c v a b d), fun h' m => TT.mono (fun x h'' z => ⟨z.1, ⟨sg, z.2.1⟩, z.2.2⟩) (m_link m v a b d)⟩
theorem jo_load (c : RC h S) (v : IV S) (a b d : Int32) : JO 20 89 [rv 0 (some 0), iv a, iv b, iv d, un] [rv 3 (some 0), iv a, iv b, iv d] h S sg :=
  ⟨bI (ldO S a b d).isSome, ldS S (ldO S a b d), ldS_IV v a b d, TT.widen (Nat.zero_le _) (Nat.zero_le _) (c_load c v a b d), fun h' m => TT.mono (fun x h'' z => ⟨z.1, ⟨sg, z.2.1⟩, z.2.2⟩) (m_load m v a b d)⟩
theorem jo_hold (c : RC h S) (v : IV S) (a b : Int32) : JO 21 90 [rv 0 (some 0), iv a, iv b] [rv 3 (some 0), iv a, iv b] h S sg :=
  ⟨bI (hoO S a b).isSome, ldS S (hoO S a b), hoS_IV v a b, TT.widen (Nat.zero_le _) (Nat.zero_le _) (c_hold c a b), fun h' m => TT.mono (fun x h'' z => ⟨z.1, ⟨sg, z.2.1⟩, z.2.2⟩) (m_hold m a b)⟩
theorem jo_collect (c : RC h S) (v : IV S) (a : Int32) : JO 27 79 [rv 0 (some 0), iv a] [rv 3 (some 0), iv a] h S sg := by
  by_cases ha : a < 0
  · exact jo_q c v (TT.mono (fun x h' z => ⟨z.2, z.1⟩) (c_collect_neg ha)) (fun h' _ => TT.mono (fun x h'' z => ⟨z.2, z.1⟩) (m_collect_neg ha))
  · obtain ⟨bu, hbu, rfl⟩ := nI_of ha
    exact ⟨collA S bu, coll S bu, coll_IV v bu, TT.widen (Nat.zero_le _) (Nat.zero_le _) (TT.mono (fun x h' z => ⟨z.1, z.2.1, z.2.2.2.2⟩) (c_collect c v hbu)), fun h' m => TT.mono (fun x h'' z => ⟨z.1, ⟨sg, z.2.1⟩, z.2.2⟩) (m_collect m v hbu)⟩
theorem jo_full (c : RC h S) (v : IV S) : JO 47 80 [rv 0 (some 0)] [rv 3 (some 0)] h S sg :=
  ⟨nI (fl0 S).length, ful S, ful_IV0 v, TT.widen (Nat.zero_le _) (Nat.zero_le _) (TT.mono (fun x h' z => ⟨z.1, z.2.1, z.2.2.2.2⟩) (k_fullP c v)), fun h' m => TT.mono (fun x h'' z => ⟨z.1, ⟨sg, z.2.1⟩, z.2.2⟩) (m_full m v)⟩
theorem jo_mark (c : RC h S) (v : IV S) : JO 43 65 [rv 0 (some 0), un, un, un] [rv 3 (some 0), un, un] h S sg := by
  refine ⟨nI (sw S (fl0 S)), mk0 S, mkL_IV v _, TT.widen (Nat.zero_le _) (Nat.zero_le _) (TT.mono ?_ (c_mark c v.bd v.cl)), fun h' m => TT.mono ?_ (m_mark m v)⟩
  · rintro x h' ⟨fl, e, rc, f1, f2, f3, cf⟩
    obtain ⟨g1, g2⟩ := mk_of (S := S) (fl := fl) ⟨f1, f2, f3⟩
    rw [← g1, ← g2]
    exact ⟨e, rc, cf⟩
  · rintro x h'' ⟨fl, rl, e, rm, mf⟩
    obtain ⟨g1, g2⟩ := mk_of rl
    rw [← g1, ← g2]
    exact ⟨e, ⟨sg, rm⟩, mf⟩
theorem jo_chosen (c : RC h S) (v : IV S) (a : Int32) : JO 37 71 [rv 0 (some 0), iv a] [rv 3 (some 0), iv a, un, un] h S sg :=
  ⟨chA S a, S, v, TT.widen (Nat.zero_le _) (Nat.zero_le _) (c_chosen c v.bd v.cl a), fun h' m => TT.mono (fun x h'' z => ⟨z.1, ⟨sg, RX_XF m z.2⟩, z.2.1.1⟩) (m_chosen m v a)⟩
theorem jo_serial (c : RC h S) (v : IV S) (a : Int32) : JO 52 92 [rv 0 (some 0), iv a] [rv 3 (some 0), iv a] h S sg := jo_q c v (c_serial c v a) (fun _ m => m_serial m v a)
theorem jo_region (c : RC h S) (v : IV S) (a : Int32) : JO 53 93 [rv 0 (some 0), iv a, un] [rv 3 (some 0), iv a] h S sg := jo_q c v (c_region c v a) (fun _ m => m_region m v a)
theorem jo_offset (c : RC h S) (v : IV S) (a : Int32) : JO 54 94 [rv 0 (some 0), iv a, un] [rv 3 (some 0), iv a] h S sg := jo_q c v (c_offset c v a) (fun _ m => m_offset m v a)
theorem jo_size (c : RC h S) (v : IV S) (a : Int32) : JO 55 95 [rv 0 (some 0), iv a, un] [rv 3 (some 0), iv a] h S sg := jo_q c v (c_size c v a) (fun _ m => m_size m v a)
theorem jo_kind (c : RC h S) (v : IV S) (a : Int32) : JO 56 96 [rv 0 (some 0), iv a] [rv 3 (some 0), iv a] h S sg := jo_q c v (c_kind c a) (fun _ m => m_kind m a)
theorem jo_used (c : RC h S) (v : IV S) (a : Int32) : JO 57 97 [rv 0 (some 0), iv a] [rv 3 (some 0), iv a] h S sg := jo_q c v (c_used c a) (fun _ m => m_used m a)
theorem jo_live (c : RC h S) (v : IV S) (a : Int32) : JO 58 98 [rv 0 (some 0), iv a] [rv 3 (some 0), iv a] h S sg := jo_q c v (c_live c a) (fun _ m => m_live m a)
theorem jo_incoming (c : RC h S) (v : IV S) (a : Int32) : JO 59 99 [rv 0 (some 0), iv a] [rv 3 (some 0), iv a] h S sg := jo_q c v (c_incoming c v a) (fun _ m => m_incoming m v a)
theorem jo_count (c : RC h S) (v : IV S) (a : Int32) : JO 60 100 [rv 0 (some 0), iv a] [rv 3 (some 0), iv a] h S sg := jo_q c v (c_count c a) (fun _ m => m_count m a)
end JOS
theorem S0_IV : IV S0 := by
  have no : ∀ o, o ∈ all S0 → False := fun o ho => by rw [S0_all] at ho; cases ho
  refine ⟨fun r hr => ⟨fun _ => ⟨rfl, rfl, rfl⟩, fun z => ?_, fun z => ?_, fun z => ?_, Nat.zero_le _⟩, fun r i o hr ho => (by cases ho), fun i o hi ho => (by cases ho), fun o o' ho => (no o ho).elim, fun o ho => (by cases ho), fun o ho => (no o ho).elim, fun r hr => (by cases hr)⟩
  · have z : 1 ≤ 0 := z
    omega
  · cases z
  · cases z
