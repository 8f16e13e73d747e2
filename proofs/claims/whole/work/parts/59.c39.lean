/-! contracts of the reference: what is reached -/
theorem w7n {h : AH} {s i k i' k' : Nat} {v : Int32} (e : i' ≠ i) : hI (sI h s i k v) s i' k' = hI h s i' k' := hI_ne e k'
theorem wS {h : AH} {s i k s' i' k' : Nat} {v : Int32} (e : s' ≠ s) : hI (sI h s i k v) s' i' k' = hI h s' i' k' := by
  rw [hI_sI, if_neg (fun z => e z.1)]
def MFR (h : AH) (S : SS) (sg : Nat → Nat) (fl : List Nat) : Prop := (∀ i o, fl[i]? = some o → hI h 6 13 i = nI (sg o)) ∧ (∀ o, o ∈ all S → hI h 7 2 (sg o) = bI (rin fl o)) ∧ fl.Nodup ∧ ∀ o ∈ fl, o ∈ all S
theorem MFR.len {h : AH} {S : SS} {sg : Nat → Nat} {fl : List Nat} (f : MFR h S sg fl) (b : BD S) : fl.length ≤ 96 := Nat.le_trans (nodup_len _ _ f.2.2.1 f.2.2.2) (all_len b)
theorem rin_t {fl : List Nat} {x : Nat} (h : rin fl x = true) : x ∈ fl := of_decide_eq_true h
theorem rin_f {fl : List Nat} {x : Nat} (h : rin fl x = false) : x ∉ fl := of_decide_eq_false h
theorem add_old {fl : List Nat} {x : Nat} (h : x ∈ fl) : add fl (some x) = fl := if_pos h
theorem add_new {fl : List Nat} {x : Nat} (h : x ∉ fl) : add fl (some x) = fl ++ [x] := if_neg h
theorem MFR_add {h h0 : AH} {S : SS} {sg : Nat → Nat} {fl : List Nat} (m : RM h0 S sg) (f : MFR h S sg fl) {x : Nat} (hx : x ∈ all S) (hn : x ∉ fl) : MFR (sI (sI h 7 2 (sg x) (nI 1)) 6 13 fl.length (nI (sg x))) S sg (add fl (some x)) := by
  have e := add_new hn
  refine ⟨fun i o ho => ?_, fun o ho => ?_, add_nodup f.2.2.1, fun o ho => ?_⟩
  · rw [wA]
    rw [e, List.getElem?_append] at ho
    split at ho
    · rename_i hl
      rw [if_neg (by omega), wS (by decide)]
      exact f.1 i o ho
    · rename_i hl
      by_cases e2 : i = fl.length
      · rw [if_pos e2]
        rw [e2, Nat.sub_self] at ho
        cases ho
        rfl
      · rw [List.getElem?_eq_none (by simp; omega)] at ho
        cases ho
  · rw [wS (by decide), wA]
    by_cases e2 : sg o = sg x
    · rw [if_pos e2]
      obtain rfl := m.inj ho hx e2
      rw [show rin (add fl (some o)) o = true from decide_eq_true (add_mem.mpr (Or.inr rfl))]
      rfl
    · rw [if_neg e2, f.2.1 o ho]
      have : rin (add fl (some x)) o = rin fl o := by
        unfold rin
        apply decide_eq_decide.mpr
        rw [add_mem]
        exact ⟨fun z => z.elim id (fun y => absurd (by cases y; rfl) e2), Or.inl⟩
      rw [this]
  · rcases add_mem.mp ho with q | q
    · exact f.2.2.2 o q
    · cases q; exact hx
theorem m_reach {h : AH} {S : SS} {sg : Nat → Nat} (m : RM h S sg) (v : IV S) : TT 64 0 [rv 3 (some 0), un, un, un, un, un] [] h 0 0 (fun x h' => x = none ∧ XF h h' ∧ ∃ fl, RL S fl ∧ ∀ o, o ∈ all S → hI h' 7 2 (sg o) = bI (rin fl o)) := by
  have b := v.bd
  have cl := v.cl
  have bfs : ∀ n i h1 fl u3 u4 u5, i + n = 97 → XF h h1 → MFR h1 S sg fl → GR S fl → (∀ k o, k < 6 → ro S k = some o → o ∈ fl) → (∀ j o o', j < i → fl[j]? = some o → some o' ∈ fd S o → o' ∈ fl) → i ≤ fl.length → TT 64 89 [rv 3 (some 0), iv (nI fl.length), iv (nI i), u3, u4, u5] [] h1 0 0 (fun x h' => x = none ∧ XF h h' ∧ ∃ fl, RL S fl ∧ ∀ o, o ∈ all S → hI h' 7 2 (sg o) = bI (rin fl o)) := by
    intro n
    induction n with
    | zero =>
      intro i h1 fl _ _ _ hn xf fr _ _ _ hi
      have := fr.len b
      omega
    | succ n ih =>
      intro i h1 fl u3 u4 u5 hn xf fr g hro hcl hi
      have hl := fr.len b
      refine TT.forget 3 (ls' := [rv 3 (some 0), iv (nI fl.length), iv (nI i), un, u4, u5]) rfl ?_
      refine TT.forget 4 (ls' := [rv 3 (some 0), iv (nI fl.length), iv (nI i), un, un, u5]) rfl ?_
      refine TT.forget 5 (ls' := [rv 3 (some 0), iv (nI fl.length), iv (nI i), un, un, un]) rfl ?_
      have m1 := RX_XF m xf
      rcases Nat.lt_or_ge i fl.length with hlt | hge
      · obtain ⟨o, ho⟩ := at_lt hlt
        have hoa := fr.2.2.2 o (List.mem_of_getElem? ho)
        have hf3 := b.fd (v.2.2.2.2.2.1 o hoa)
        have hgo := g o (List.mem_of_getElem? ho)
        have hso := m.lt hoa
        have inner : ∀ k f h2 fl2 u5, f + k = (fd S o).length → XF h h2 → MFR h2 S sg fl2 → GR S fl2 → (∀ k o, k < 6 → ro S k = some o → o ∈ fl2) → (∀ j o o', j < i → fl2[j]? = some o → some o' ∈ fd S o → o' ∈ fl2) → fl2[i]? = some o → (∀ f' o', f' < f → (fd S o)[f']? = some (some o') → o' ∈ fl2) → TT 64 106 [rv 3 (some 0), iv (nI fl2.length), iv (nI i), iv (nI (sg o)), iv (nI (3 * sg o + f)), u5] [] h2 0 0 (fun x h' => x = none ∧ XF h h' ∧ ∃ fl, RL S fl ∧ ∀ o, o ∈ all S → hI h' 7 2 (sg o) = bI (rin fl o)) := by
          intro k
          induction k with
          | zero =>
            intro f h2 fl2 u5 hf xf2 fr2 g2 hro2 hcl2 hi2 hff
            have hlen2 := (List.getElem?_eq_some_iff.mp hi2).1
            have hl2 := fr2.len b
            have m2 := RX_XF m xf2
            obtain rfl : f = (fd S o).length := by omega
            refine TT.forget 5 (ls' := [rv 3 (some 0), iv (nI fl2.length), iv (nI i), iv (nI (sg o)), iv (nI (3 * sg o + (fd S o).length)), un]) rfl ?_
            refine r_iload 108 d_64_106 rfl rfl ?_
            refine r_iconst 109 (nI 3) d_64_108 rfl (by decide) ?_
            refine r_iload_n 110 d_64_109 rfl rfl ?_
            refine r_imul 111 (nI (3 * sg o)) d_64_110 rfl (pk_mul _ _) ?_
            refine r_aload_n 112 d_64_111 rfl rfl ?_
            refine r_getR 115 3 2 6 (some 2) d_64_112 rfl fk_3_16 rfl (by decide) (MT.f2 m2.mt) ?_
            refine r_iload_n 116 d_64_115 rfl rfl ?_
            refine r_iald 117 (sg o) (nI (fd S o).length) d_64_116 rfl rfl (MT.l6_2 m2.mt hso) (m2.fl hoa) ?_
            refine r_iadd 118 (nI (3 * sg o + (fd S o).length)) d_64_117 rfl (nI_add _ _) ?_
            refine r_icmp_ge 170 121 d_64_118 (by decide) rfl (fun c_118 => ?_) (fun c_118 => absurd (nI_le (Nat.le_refl _) (by omega)) c_118)
            refine r_iinc 173 (nI (i + 1)) [rv 3 (some 0), iv (nI fl2.length), iv (nI (i + 1)), iv (nI (sg o)), iv (nI (3 * sg o + (fd S o).length)), un] d_64_170 rfl rfl (nI_1 i) rfl rfl ?_
            refine r_goto 89 d_64_173 (by decide) ?_
            refine ih (i + 1) h2 fl2 _ _ _ (by omega) xf2 fr2 g2 hro2 (fun j x x' hj hx hm => ?_) (by omega)
            rcases Nat.lt_or_ge j i with q | q
            · exact hcl2 j x x' q hx hm
            · obtain rfl : j = i := by omega
              cases hi2.symm.trans hx
              obtain ⟨f', hf'⟩ := List.getElem?_of_mem hm
              exact hff f' x' (by have := (List.getElem?_eq_some_iff.mp hf').1; omega) hf'
          | succ k ihk =>
            intro f h2 fl2 u5 hf xf2 fr2 g2 hro2 hcl2 hi2 hff
            have hlen2 := (List.getElem?_eq_some_iff.mp hi2).1
            have hl2 := fr2.len b
            have m2 := RX_XF m xf2
            obtain ⟨w, hw⟩ : ∃ w, (fd S o)[f]? = some w := ⟨_, List.getElem?_eq_getElem (by omega)⟩
            have hb : 3 * sg o + f < 291 := by omega
            have hfd := m2.fd hoa hw
            refine TT.forget 5 (ls' := [rv 3 (some 0), iv (nI fl2.length), iv (nI i), iv (nI (sg o)), iv (nI (3 * sg o + f)), un]) rfl ?_
            have next : ∀ h3 u5, XF h h3 → MFR h3 S sg (add fl2 w) → TT 64 106 [rv 3 (some 0), iv (nI (add fl2 w).length), iv (nI i), iv (nI (sg o)), iv (nI (3 * sg o + (f + 1))), u5] [] h3 0 0 (fun x h' => x = none ∧ XF h h' ∧ ∃ fl, RL S fl ∧ ∀ o, o ∈ all S → hI h' 7 2 (sg o) = bI (rin fl o)) := by
              intro h3 u5 xf3 fr3
              refine ihk (f + 1) h3 (add fl2 w) _ (by omega) xf3 fr3 (g2.add (fun x hx => hgo.step (hx ▸ List.mem_of_getElem? hw))) (fun k x hk hx => add_mem.mpr (Or.inl (hro2 k x hk hx))) (fun j x x' hj hx hm => ?_) (add_at hi2) (fun f' x' hf' hx' => ?_)
              · obtain ⟨y, hy⟩ := at_lt (l := fl2) (i := j) (by omega)
                cases (add_at (o := w) hy).symm.trans hx
                exact add_mem.mpr (Or.inl (hcl2 j _ x' hj hy hm))
              · rcases Nat.lt_or_ge f' f with q | q
                · exact add_mem.mpr (Or.inl (hff f' x' q hx'))
                · obtain rfl : f' = f := by omega
                  exact add_mem.mpr (Or.inr (Option.some.inj (hw.symm.trans hx')))
            cases w with
            | none =>
              refine r_iload 108 d_64_106 rfl rfl ?_
              refine r_iconst 109 (nI 3) d_64_108 rfl (by decide) ?_
              refine r_iload_n 110 d_64_109 rfl rfl ?_
              refine r_imul 111 (nI (3 * sg o)) d_64_110 rfl (pk_mul _ _) ?_
              refine r_aload_n 112 d_64_111 rfl rfl ?_
              refine r_getR 115 3 2 6 (some 2) d_64_112 rfl fk_3_16 rfl (by decide) (MT.f2 m2.mt) ?_
              refine r_iload_n 116 d_64_115 rfl rfl ?_
              refine r_iald 117 (sg o) (nI (fd S o).length) d_64_116 rfl rfl (MT.l6_2 m2.mt hso) (m2.fl hoa) ?_
              refine r_iadd 118 (nI (3 * sg o + (fd S o).length)) d_64_117 rfl (nI_add _ _) ?_
              refine r_icmp_ge 170 121 d_64_118 (by decide) rfl (fun c_118 => absurd c_118 (nI_ge (by omega) (by omega))) (fun c_118 => ?_)
              refine r_aload_n 122 d_64_121 rfl rfl ?_
              refine r_getR 125 3 3 6 (some 3) d_64_122 rfl fk_3_19 rfl (by decide) (MT.f3 m2.mt) ?_
              refine r_iload 127 d_64_125 rfl rfl ?_
              refine r_iald 128 (3 * sg o + f) (-1) d_64_127 rfl rfl (MT.l6_3 m2.mt hb) hfd ?_
              refine r_istore 130 [rv 3 (some 0), iv (nI fl2.length), iv (nI i), iv (nI (sg o)), iv (nI (3 * sg o + f)), iv (-1)] d_64_128 rfl rfl rfl ?_
              refine r_iload 132 d_64_130 rfl rfl ?_
              refine r_if_lt 164 135 d_64_132 (by decide) rfl (fun c_132 => ?_) (fun c_132 => absurd (by decide) c_132)
              refine r_iinc 167 (nI (3 * sg o + (f + 1))) [rv 3 (some 0), iv (nI fl2.length), iv (nI i), iv (nI (sg o)), iv (nI (3 * sg o + (f + 1))), iv (-1)] d_64_164 rfl rfl (nI_1 _) rfl rfl ?_
              refine r_goto 106 d_64_167 (by decide) ?_
              exact next h2 _ xf2 fr2
            | some x =>
              have hx := v.2.2.2.1 o x hoa (List.mem_of_getElem? hw)
              have hsx := m.lt hx
              refine r_iload 108 d_64_106 rfl rfl ?_
              refine r_iconst 109 (nI 3) d_64_108 rfl (by decide) ?_
              refine r_iload_n 110 d_64_109 rfl rfl ?_
              refine r_imul 111 (nI (3 * sg o)) d_64_110 rfl (pk_mul _ _) ?_
              refine r_aload_n 112 d_64_111 rfl rfl ?_
              refine r_getR 115 3 2 6 (some 2) d_64_112 rfl fk_3_16 rfl (by decide) (MT.f2 m2.mt) ?_
              refine r_iload_n 116 d_64_115 rfl rfl ?_
              refine r_iald 117 (sg o) (nI (fd S o).length) d_64_116 rfl rfl (MT.l6_2 m2.mt hso) (m2.fl hoa) ?_
              refine r_iadd 118 (nI (3 * sg o + (fd S o).length)) d_64_117 rfl (nI_add _ _) ?_
              refine r_icmp_ge 170 121 d_64_118 (by decide) rfl (fun c_118 => absurd c_118 (nI_ge (by omega) (by omega))) (fun c_118 => ?_)
              refine r_aload_n 122 d_64_121 rfl rfl ?_
              refine r_getR 125 3 3 6 (some 3) d_64_122 rfl fk_3_19 rfl (by decide) (MT.f3 m2.mt) ?_
              refine r_iload 127 d_64_125 rfl rfl ?_
              refine r_iald 128 (3 * sg o + f) (nI (sg x)) d_64_127 rfl rfl (MT.l6_3 m2.mt hb) hfd ?_
              refine r_istore 130 [rv 3 (some 0), iv (nI fl2.length), iv (nI i), iv (nI (sg o)), iv (nI (3 * sg o + f)), iv (nI (sg x))] d_64_128 rfl rfl rfl ?_
              refine r_iload 132 d_64_130 rfl rfl ?_
              refine r_if_lt 164 135 d_64_132 (by decide) rfl (fun c_132 => absurd c_132 (nI_pos (by omega))) (fun c_132 => ?_)
              refine r_aload_n 136 d_64_135 rfl rfl ?_
              refine r_getR 139 3 23 7 (some 2) d_64_136 rfl fk_3_75 rfl (by decide) (MT.f23 m2.mt) ?_
              refine r_iload 141 d_64_139 rfl rfl ?_
              refine r_bald 142 (sg x) (bI (rin fl2 x)) d_64_141 rfl rfl (MT.l7_2 m2.mt hsx) (fr2.2.1 x hx) ?_
              refine r_if_ne 164 145 d_64_142 (by decide) rfl (fun c_142 => ?_) (fun c_142 => ?_)
              · skip
                refine r_iinc 167 (nI (3 * sg o + (f + 1))) [rv 3 (some 0), iv (nI fl2.length), iv (nI i), iv (nI (sg o)), iv (nI (3 * sg o + (f + 1))), iv (nI (sg x))] d_64_164 rfl rfl (nI_1 _) rfl rfl ?_
                refine r_goto 106 d_64_167 (by decide) ?_
                first
                | (have z := next h2 (iv (nI (sg x))) xf2 (by rw [add_old (rin_t (bI_1 c_142))]; exact fr2); rw [add_old (rin_t (bI_1 c_142))] at z; exact z)
                | (have z := next _ (iv (nI (sg x))) (XF_sI (XF_sI xf2 rfl) rfl) (MFR_add m fr2 hx (rin_f (bI_0 c_142))); rw [show (add fl2 (some x)).length = fl2.length + 1 by rw [add_new (rin_f (bI_0 c_142))]; simp] at z; exact z)
              · skip
                refine r_aload_n 146 d_64_145 rfl rfl ?_
                refine r_getR 149 3 23 7 (some 2) d_64_146 rfl fk_3_75 rfl (by decide) (MT.f23 m2.mt) ?_
                refine r_iload 151 d_64_149 rfl rfl ?_
                refine r_iconst 152 (nI 1) d_64_151 rfl (by decide) ?_
                refine r_bast 153 (sg x) d_64_152 rfl rfl (MT.l7_2 m2.mt hsx) rfl ?_
                refine r_aload_n 154 d_64_153 rfl rfl ?_
                refine r_getR 157 3 16 6 (some 13) d_64_154 rfl fk_3_57 rfl (by decide) (MT.f16 (MT_sI m2.mt rfl)) ?_
                refine r_iload_n 158 d_64_157 rfl rfl ?_
                refine r_iload 160 d_64_158 rfl rfl ?_
                refine r_iast 161 fl2.length d_64_160 rfl rfl (MT.l6_13 (MT_sI m2.mt rfl) (by omega)) ?_
                refine r_iinc 164 (nI (fl2.length + 1)) [rv 3 (some 0), iv (nI (fl2.length + 1)), iv (nI i), iv (nI (sg o)), iv (nI (3 * sg o + f)), iv (nI (sg x))] d_64_161 rfl rfl (nI_1 fl2.length) rfl rfl ?_
                refine r_iinc 167 (nI (3 * sg o + (f + 1))) [rv 3 (some 0), iv (nI (fl2.length + 1)), iv (nI i), iv (nI (sg o)), iv (nI (3 * sg o + (f + 1))), iv (nI (sg x))] d_64_164 rfl rfl (nI_1 _) rfl rfl ?_
                refine r_goto 106 d_64_167 (by decide) ?_
                first
                | (have z := next h2 (iv (nI (sg x))) xf2 (by rw [add_old (rin_t (bI_1 c_142))]; exact fr2); rw [add_old (rin_t (bI_1 c_142))] at z; exact z)
                | (have z := next _ (iv (nI (sg x))) (XF_sI (XF_sI xf2 rfl) rfl) (MFR_add m fr2 hx (rin_f (bI_0 c_142))); rw [show (add fl2 (some x)).length = fl2.length + 1 by rw [add_new (rin_f (bI_0 c_142))]; simp] at z; exact z)
        refine r_iload_n 90 d_64_89 rfl rfl ?_
        refine r_iload_n 91 d_64_90 rfl rfl ?_
        refine r_icmp_ge 176 94 d_64_91 (by decide) rfl (fun c_91 => absurd c_91 (nI_ge hlt (by omega))) (fun c_91 => ?_)
        refine r_aload_n 95 d_64_94 rfl rfl ?_
        refine r_getR 98 3 16 6 (some 13) d_64_95 rfl fk_3_57 rfl (by decide) (MT.f16 m1.mt) ?_
        refine r_iload_n 99 d_64_98 rfl rfl ?_
        refine r_iald 100 i (nI (sg o)) d_64_99 rfl rfl (MT.l6_13 m1.mt (by omega)) (fr.1 i o ho) ?_
        refine r_istore_n 101 [rv 3 (some 0), iv (nI fl.length), iv (nI i), iv (nI (sg o)), un, un] d_64_100 rfl rfl rfl ?_
        refine r_iconst 102 (nI 3) d_64_101 rfl (by decide) ?_
        refine r_iload_n 103 d_64_102 rfl rfl ?_
        refine r_imul 104 (nI (3 * sg o)) d_64_103 rfl (pk_mul _ _) ?_
        refine r_istore 106 [rv 3 (some 0), iv (nI fl.length), iv (nI i), iv (nI (sg o)), iv (nI (3 * sg o)), un] d_64_104 rfl rfl rfl ?_
        exact inner (fd S o).length 0 h1 fl _ (by omega) xf fr g hro hcl ho (fun f' o' hf' => absurd hf' (Nat.not_lt_zero f'))
      · obtain rfl : i = fl.length := by omega
        refine r_iload_n 90 d_64_89 rfl rfl ?_
        refine r_iload_n 91 d_64_90 rfl rfl ?_
        refine r_icmp_ge 176 94 d_64_91 (by decide) rfl (fun c_91 => ?_) (fun c_91 => absurd (nI_le (Nat.le_refl _) (by omega)) c_91)
        refine r_return d_64_176 rfl ?_
        exact ⟨rfl, xf, fl, ⟨fr.2.2.1, fr.2.2.2, Rch_iff hro g hcl⟩, fr.2.1⟩
  have roots : ∀ n i h1 fl, i + n = 6 → XF h h1 → MFR h1 S sg fl → GR S fl → (∀ k o, k < i → ro S k = some o → o ∈ fl) → TT 64 25 [rv 3 (some 0), iv (nI fl.length), iv (nI i), un, un, un] [] h1 0 0 (fun x h' => x = none ∧ XF h h' ∧ ∃ fl, RL S fl ∧ ∀ o, o ∈ all S → hI h' 7 2 (sg o) = bI (rin fl o)) := by
    intro n
    induction n with
    | zero =>
      intro i h1 fl hn xf fr g hro
      obtain rfl : i = 6 := by omega
      refine r_iload_n 26 d_64_25 rfl rfl ?_
      refine r_bipush 28 (nI 6) d_64_26 rfl (by decide) ?_
      refine r_icmp_ge 87 31 d_64_28 (by decide) rfl (fun c_28 => ?_) (fun c_28 => absurd (nI_le (Nat.le_refl _) (by decide)) c_28)
      refine r_iconst 88 (nI 0) d_64_87 rfl (by decide) ?_
      refine r_istore_n 89 [rv 3 (some 0), iv (nI fl.length), iv (nI 0), un, un, un] d_64_88 rfl rfl rfl ?_
      exact bfs 97 0 h1 fl un un un rfl xf fr g hro (fun j o o' hj => absurd hj (Nat.not_lt_zero j)) (Nat.zero_le _)
    | succ n ih =>
      intro i h1 fl hn xf fr g hro
      have hi6 : i < 6 := by omega
      have m1 := RX_XF m xf
      have hl := fr.len b
      have next : ∀ h3, XF h h3 → MFR h3 S sg (add fl (ro S i)) → TT 64 25 [rv 3 (some 0), iv (nI (add fl (ro S i)).length), iv (nI (i + 1)), un, un, un] [] h3 0 0 (fun x h' => x = none ∧ XF h h' ∧ ∃ fl, RL S fl ∧ ∀ o, o ∈ all S → hI h' 7 2 (sg o) = bI (rin fl o)) := by
        intro h3 xf3 fr3
        refine ih (i + 1) h3 _ (by omega) xf3 fr3 (g.add (fun x hx => Rch.root hi6 hx)) (fun k x hk hx => ?_)
        rcases Nat.lt_or_ge k i with q | q
        · exact add_mem.mpr (Or.inl (hro k x q hx))
        · obtain rfl : k = i := by omega
          exact add_mem.mpr (Or.inr hx)
      cases hr : ro S i with
      | none =>
        rw [hr] at next
        have hz : hI h1 6 7 i = -1 := (m1.ro hi6).trans (by rw [hr]; rfl)
        refine r_iload_n 26 d_64_25 rfl rfl ?_
        refine r_bipush 28 (nI 6) d_64_26 rfl (by decide) ?_
        refine r_icmp_ge 87 31 d_64_28 (by decide) rfl (fun c_28 => absurd c_28 (nI_ge hi6 (by decide))) (fun c_28 => ?_)
        refine r_aload_n 32 d_64_31 rfl rfl ?_
        refine r_getR 35 3 7 6 (some 7) d_64_32 rfl fk_3_31 rfl (by decide) (MT.f7 m1.mt) ?_
        refine r_iload_n 36 d_64_35 rfl rfl ?_
        refine r_iald 37 i (-1) d_64_36 rfl rfl (MT.l6_7 m1.mt hi6) hz ?_
        refine r_if_lt 81 40 d_64_37 (by decide) rfl (fun c_37 => ?_) (fun c_37 => absurd (by decide) c_37)
        refine r_iinc 84 (nI (i + 1)) [rv 3 (some 0), iv (nI fl.length), iv (nI (i + 1)), un, un, un] d_64_81 rfl rfl (nI_1 i) rfl rfl ?_
        refine r_goto 25 d_64_84 (by decide) ?_
        exact next h1 xf fr
      | some x =>
        rw [hr] at next
        have hx := cl.1 i x hi6 hr
        have hsx := m.lt hx
        have hz : hI h1 6 7 i = nI (sg x) := (m1.ro hi6).trans (by rw [hr]; rfl)
        have hz2 : hI (sI h1 7 2 (sg x) (nI 1)) 6 7 i = nI (sg x) := (wS (by decide)).trans hz
        refine r_iload_n 26 d_64_25 rfl rfl ?_
        refine r_bipush 28 (nI 6) d_64_26 rfl (by decide) ?_
        refine r_icmp_ge 87 31 d_64_28 (by decide) rfl (fun c_28 => absurd c_28 (nI_ge hi6 (by decide))) (fun c_28 => ?_)
        refine r_aload_n 32 d_64_31 rfl rfl ?_
        refine r_getR 35 3 7 6 (some 7) d_64_32 rfl fk_3_31 rfl (by decide) (MT.f7 m1.mt) ?_
        refine r_iload_n 36 d_64_35 rfl rfl ?_
        refine r_iald 37 i (nI (sg x)) d_64_36 rfl rfl (MT.l6_7 m1.mt hi6) hz ?_
        refine r_if_lt 81 40 d_64_37 (by decide) rfl (fun c_37 => absurd c_37 (nI_pos (by omega))) (fun c_37 => ?_)
        refine r_aload_n 41 d_64_40 rfl rfl ?_
        refine r_getR 44 3 23 7 (some 2) d_64_41 rfl fk_3_75 rfl (by decide) (MT.f23 m1.mt) ?_
        refine r_aload_n 45 d_64_44 rfl rfl ?_
        refine r_getR 48 3 7 6 (some 7) d_64_45 rfl fk_3_31 rfl (by decide) (MT.f7 m1.mt) ?_
        refine r_iload_n 49 d_64_48 rfl rfl ?_
        refine r_iald 50 i (nI (sg x)) d_64_49 rfl rfl (MT.l6_7 m1.mt hi6) hz ?_
        refine r_bald 51 (sg x) (bI (rin fl x)) d_64_50 rfl rfl (MT.l7_2 m1.mt hsx) (fr.2.1 x hx) ?_
        refine r_if_ne 81 54 d_64_51 (by decide) rfl (fun c_51 => ?_) (fun c_51 => ?_)
        · skip
          refine r_iinc 84 (nI (i + 1)) [rv 3 (some 0), iv (nI fl.length), iv (nI (i + 1)), un, un, un] d_64_81 rfl rfl (nI_1 i) rfl rfl ?_
          refine r_goto 25 d_64_84 (by decide) ?_
          first
          | (have z := next h1 xf (by rw [add_old (rin_t (bI_1 c_51))]; exact fr); rw [add_old (rin_t (bI_1 c_51))] at z; exact z)
          | (have z := next _ (XF_sI (XF_sI xf rfl) rfl) (MFR_add m fr hx (rin_f (bI_0 c_51))); rw [show (add fl (some x)).length = fl.length + 1 by rw [add_new (rin_f (bI_0 c_51))]; simp] at z; exact z)
        · skip
          refine r_aload_n 55 d_64_54 rfl rfl ?_
          refine r_getR 58 3 23 7 (some 2) d_64_55 rfl fk_3_75 rfl (by decide) (MT.f23 m1.mt) ?_
          refine r_aload_n 59 d_64_58 rfl rfl ?_
          refine r_getR 62 3 7 6 (some 7) d_64_59 rfl fk_3_31 rfl (by decide) (MT.f7 m1.mt) ?_
          refine r_iload_n 63 d_64_62 rfl rfl ?_
          refine r_iald 64 i (nI (sg x)) d_64_63 rfl rfl (MT.l6_7 m1.mt hi6) hz ?_
          refine r_iconst 65 (nI 1) d_64_64 rfl (by decide) ?_
          refine r_bast 66 (sg x) d_64_65 rfl rfl (MT.l7_2 m1.mt hsx) rfl ?_
          refine r_aload_n 67 d_64_66 rfl rfl ?_
          refine r_getR 70 3 16 6 (some 13) d_64_67 rfl fk_3_57 rfl (by decide) (MT.f16 (MT_sI m1.mt rfl)) ?_
          refine r_iload_n 71 d_64_70 rfl rfl ?_
          refine r_aload_n 72 d_64_71 rfl rfl ?_
          refine r_getR 75 3 7 6 (some 7) d_64_72 rfl fk_3_31 rfl (by decide) (MT.f7 (MT_sI m1.mt rfl)) ?_
          refine r_iload_n 76 d_64_75 rfl rfl ?_
          refine r_iald 77 i (nI (sg x)) d_64_76 rfl rfl (MT.l6_7 (MT_sI m1.mt rfl) hi6) hz2 ?_
          refine r_iast 78 fl.length d_64_77 rfl rfl (MT.l6_13 (MT_sI m1.mt rfl) (by omega)) ?_
          refine r_iinc 81 (nI (fl.length + 1)) [rv 3 (some 0), iv (nI (fl.length + 1)), iv (nI i), un, un, un] d_64_78 rfl rfl (nI_1 fl.length) rfl rfl ?_
          refine r_iinc 84 (nI (i + 1)) [rv 3 (some 0), iv (nI (fl.length + 1)), iv (nI (i + 1)), un, un, un] d_64_81 rfl rfl (nI_1 i) rfl rfl ?_
          refine r_goto 25 d_64_84 (by decide) ?_
          first
          | (have z := next h1 xf (by rw [add_old (rin_t (bI_1 c_51))]; exact fr); rw [add_old (rin_t (bI_1 c_51))] at z; exact z)
          | (have z := next _ (XF_sI (XF_sI xf rfl) rfl) (MFR_add m fr hx (rin_f (bI_0 c_51))); rw [show (add fl (some x)).length = fl.length + 1 by rw [add_new (rin_f (bI_0 c_51))]; simp] at z; exact z)
  have clear : ∀ n j h1, j + n = 97 → XF h h1 → (∀ q, q < j → hI h1 7 2 q = nI 0) → TT 64 2 [rv 3 (some 0), iv (nI j), un, un, un, un] [] h1 0 0 (fun x h' => x = none ∧ XF h h' ∧ ∃ fl, RL S fl ∧ ∀ o, o ∈ all S → hI h' 7 2 (sg o) = bI (rin fl o)) := by
    intro n
    induction n with
    | zero =>
      intro j h1 hj xf hz
      obtain rfl : j = 97 := by omega
      have z := roots 6 0 h1 [] rfl xf ⟨fun i o ho => (by cases ho), fun o ho => hz _ (m.lt ho), List.nodup_nil, fun o ho => (by cases ho)⟩ (fun o ho => by cases ho) (fun k o hk => absurd hk (Nat.not_lt_zero k))
      refine r_iload_n 3 d_64_2 rfl rfl ?_
      refine r_bipush 5 (nI 97) d_64_3 rfl (by decide) ?_
      refine r_icmp_ge 21 8 d_64_5 (by decide) rfl (fun c_5 => ?_) (fun c_5 => absurd (nI_le (Nat.le_refl _) (by decide)) c_5)
      refine r_iconst 22 (nI 0) d_64_21 rfl (by decide) ?_
      refine r_istore_n 23 [rv 3 (some 0), iv (nI 0), un, un, un, un] d_64_22 rfl rfl rfl ?_
      refine r_iconst 24 (nI 0) d_64_23 rfl (by decide) ?_
      refine r_istore_n 25 [rv 3 (some 0), iv (nI 0), iv (nI 0), un, un, un] d_64_24 rfl rfl rfl ?_
      exact z
    | succ n ih =>
      intro j h1 hj xf hz
      have hj97 : j < 97 := by omega
      have mt1 := MT_XG m.mt xf.1
      refine r_iload_n 3 d_64_2 rfl rfl ?_
      refine r_bipush 5 (nI 97) d_64_3 rfl (by decide) ?_
      refine r_icmp_ge 21 8 d_64_5 (by decide) rfl (fun c_5 => absurd c_5 (nI_ge hj97 (by decide))) (fun c_5 => ?_)
      refine r_aload_n 9 d_64_8 rfl rfl ?_
      refine r_getR 12 3 23 7 (some 2) d_64_9 rfl fk_3_75 rfl (by decide) (MT.f23 mt1) ?_
      refine r_iload_n 13 d_64_12 rfl rfl ?_
      refine r_iconst 14 (nI 0) d_64_13 rfl (by decide) ?_
      refine r_bast 15 j d_64_14 rfl rfl (MT.l7_2 mt1 hj97) rfl ?_
      refine r_iinc 18 (nI (j + 1)) [rv 3 (some 0), iv (nI (j + 1)), un, un, un, un] d_64_15 rfl rfl (nI_1 j) rfl rfl ?_
      refine r_goto 2 d_64_18 (by decide) ?_
      refine ih (j + 1) _ (by omega) (XF_sI xf rfl) (fun q hq => ?_)
      rw [wA]
      split
      · rfl
      · exact hz q (by omega)
  refine r_iconst 1 (nI 0) d_64_0 rfl (by decide) ?_
  refine r_istore_n 2 [rv 3 (some 0), iv (nI 0), un, un, un, un] d_64_1 rfl rfl rfl ?_
  exact clear 97 0 h rfl (XF.rf h) (fun q hq => absurd hq (Nat.not_lt_zero q))
