/-! sums over slots; contracts of the reference: incomingOf -/
/-- the sum over the objects whose slot is below j -/
def spt (sg g : Nat → Nat) (l : List Nat) (j : Nat) : Nat := (l.map (fun o => if sg o < j then g o else 0)).sum
theorem spt_cons (sg g : Nat → Nat) (o : Nat) (l : List Nat) (j : Nat) : spt sg g (o :: l) j = (if sg o < j then g o else 0) + spt sg g l j := by simp [spt]
theorem spt_miss {sg g : Nat → Nat} {j : Nat} : ∀ (l : List Nat), (∀ o ∈ l, sg o ≠ j) → spt sg g l (j + 1) = spt sg g l j
  | [], _ => rfl
  | o :: l, h => by
    have h1 := spt_miss (g := g) l (fun x hx => h x (List.mem_cons_of_mem _ hx))
    have h2 := h o List.mem_cons_self
    rw [spt_cons, spt_cons, h1]
    congr 1
    by_cases e : sg o < j
    · rw [if_pos e, if_pos (by omega)]
    · rw [if_neg e, if_neg (by omega)]
theorem spt_hit {sg g : Nat → Nat} {j x : Nat} : ∀ (l : List Nat), l.Nodup → x ∈ l → sg x = j → (∀ o ∈ l, sg o = j → o = x) → spt sg g l (j + 1) = spt sg g l j + g x
  | [], _, hx, _, _ => by cases hx
  | o :: l, hn, hx, hj, hi => by
    obtain ⟨n1, n2⟩ := List.nodup_cons.mp hn
    rw [spt_cons, spt_cons]
    rcases List.mem_cons.mp hx with e | e
    · subst e
      rw [spt_miss l (fun y hy e => n1 (hi y (List.mem_cons_of_mem _ hy) e ▸ hy)), if_pos (by omega), if_neg (by omega)]
      omega
    · rw [spt_hit l n2 e hj (fun y hy => hi y (List.mem_cons_of_mem _ hy))]
      have hne : sg o ≠ j := fun z => n1 (hi o List.mem_cons_self z ▸ e)
      by_cases e2 : sg o < j
      · rw [if_pos e2, if_pos (by omega)]; omega
      · rw [if_neg e2, if_neg (by omega)]; omega
theorem spt_0 (sg g : Nat → Nat) : ∀ l, spt sg g l 0 = 0
  | [] => rfl
  | o :: l => by rw [spt_cons, if_neg (by omega), spt_0 sg g l]
theorem spt_all {sg g : Nat → Nat} {j : Nat} : ∀ (l : List Nat), (∀ o ∈ l, sg o < j) → spt sg g l j = (l.map g).sum
  | [], _ => rfl
  | o :: l, h => by
    rw [spt_cons, if_pos (h o List.mem_cons_self), spt_all l (fun x hx => h x (List.mem_cons_of_mem _ hx))]
    simp
theorem smf_flat (f : Nat → List Nat) (g : Nat → Nat) : ∀ n, (((List.range n).flatMap f).map g).sum = smf (fun r => ((f r).map g).sum) n
  | 0 => rfl
  | n + 1 => by
    rw [List.range_succ, List.flatMap_append, List.map_append, List.sum_append, smf_flat f g n]
    simp [smf]
theorem smf_congr {f g : Nat → Nat} : ∀ n, (∀ r, r < n → f r = g r) → smf f n = smf g n
  | 0, _ => rfl
  | n + 1, h => by
    unfold smf
    rw [smf_congr n (fun r hr => h r (by omega)), h n (by omega)]
/-- what an object adds to what comes in to r -/
def gin (S : SS) (r o : Nat) : Nat := if hm S o = r then 0 else ffI S o r
theorem inc_all {S : SS} (v : IV S) (r : Nat) : inc S r = ((all S).map (gin S r)).sum := by
  unfold inc all
  rw [smf_flat]
  apply smf_congr
  intro r' hr'
  unfold inR
  have e : (itm S r').map (gin S r) = (itm S r').map (fun o => if r' = r then 0 else ffI S o r) := by
    apply List.map_congr_left
    intro o ho
    unfold gin
    rw [v.2.1.hm hr' ho]
  rw [e]
  by_cases e2 : r' = r
  · simp only [if_pos e2]
    induction itm S r' with
    | nil => rfl
    | cons a l ih => simpa using ih
  · simp only [if_neg e2]
    rfl
theorem m_incomingOf {h : AH} {S : SS} {sg : Nat → Nat} (m : RM h S sg) (v : IV S) {r : Nat} (hr : r < 12) : TT 68 0 [rv 3 (some 0), iv (nI r), un, un, un] [] h 0 0 (fun x h' => h' = h ∧ x = some (iv (nI (inc S r)))) := by
  have loop : ∀ n j u, j + n = 97 → TT 68 4 [rv 3 (some 0), iv (nI r), iv (nI (spt sg (gin S r) (all S) j)), iv (nI j), u] [] h 0 0 (fun x h' => h' = h ∧ x = some (iv (nI (inc S r)))) := by
    intro n
    induction n with
    | zero =>
      intro j u hj
      obtain rfl : j = 97 := by omega
      refine TT.forget 4 (ls' := [rv 3 (some 0), iv (nI r), iv (nI (spt sg (gin S r) (all S) 97)), iv (nI 97), un]) rfl ?_
      refine r_iload_n 5 d_68_4 rfl rfl ?_
      refine r_bipush 7 (nI 97) d_68_5 rfl (by decide) ?_
      refine r_icmp_ge 95 10 d_68_7 (by decide) rfl (fun c_7 => ?_) (fun c_7 => absurd (nI_le (Nat.le_refl _) (by decide)) c_7)
      refine r_iload_n 96 d_68_95 rfl rfl ?_
      refine r_ireturn d_68_96 rfl ?_
      exact ⟨rfl, by rw [spt_all _ (fun o ho => m.lt ho), inc_all v]⟩
    | succ n ih =>
      intro j u hj
      have hj97 : j < 97 := by omega
      refine TT.forget 4 (ls' := [rv 3 (some 0), iv (nI r), iv (nI (spt sg (gin S r) (all S) j)), iv (nI j), un]) rfl ?_
      by_cases hex : ∃ o, o ∈ all S ∧ sg o = j
      · obtain ⟨o, hoa, rfl⟩ := hex
        have es : spt sg (gin S r) (all S) (sg o + 1) = spt sg (gin S r) (all S) (sg o) + gin S r o := spt_hit _ v.cl.2.2.1 hoa rfl (fun y hy e => m.inj hy hoa e)
        have z := fun u => ih (sg o + 1) u (by omega)
        rw [es] at z
        have hl3 := v.bd.fd (v.2.2.2.2.2.1 o hoa)
        have hr12 := hm_lt v.cl hoa
        by_cases hh : hm S o = r
        · have eg : gin S r o = 0 := if_pos hh
          rw [eg, Nat.add_zero] at z
          refine r_iload_n 5 d_68_4 rfl rfl ?_
          refine r_bipush 7 (nI 97) d_68_5 rfl (by decide) ?_
          refine r_icmp_ge 95 10 d_68_7 (by decide) rfl (fun c_7 => absurd c_7 (nI_ge hj97 (by decide))) (fun c_7 => ?_)
          refine r_iconst 11 (nI 3) d_68_10 rfl (by decide) ?_
          refine r_iload_n 12 d_68_11 rfl rfl ?_
          refine r_imul 13 (nI (3 * sg o)) d_68_12 rfl (pk_mul _ _) ?_
          refine r_istore 15 [rv 3 (some 0), iv (nI r), iv (nI (spt sg (gin S r) (all S) (sg o))), iv (nI (sg o)), iv (nI (3 * sg o))] d_68_13 rfl rfl rfl ?_
          refine r_iload 17 d_68_15 rfl rfl ?_
          refine r_iconst 18 (nI 3) d_68_17 rfl (by decide) ?_
          refine r_iload_n 19 d_68_18 rfl rfl ?_
          refine r_imul 20 (nI (3 * sg o)) d_68_19 rfl (pk_mul _ _) ?_
          refine r_aload_n 21 d_68_20 rfl rfl ?_
          refine r_getR 24 3 2 6 (some 2) d_68_21 rfl fk_3_16 rfl (by decide) (MT.f2 m.mt) ?_
          refine r_iload_n 25 d_68_24 rfl rfl ?_
          refine r_iald 26 (sg o) (nI (fd S o).length) d_68_25 rfl rfl (MT.l6_2 m.mt hj97) (m.fl hoa) ?_
          refine r_iadd 27 (nI ((3 * sg o) + ((fd S o).length))) d_68_26 rfl (nI_add (3 * sg o) ((fd S o).length)) ?_
          refine r_icmp_ge 89 30 d_68_27 (by decide) rfl (fun c_27 => ?_) (fun c_27 => ?_)
          · skip
            refine r_iinc 92 (nI (sg o + 1)) [rv 3 (some 0), iv (nI r), iv (nI (spt sg (gin S r) (all S) (sg o))), iv (nI (sg o + 1)), iv (nI (3 * sg o))] d_68_89 rfl rfl (nI_1 (sg o)) rfl rfl ?_
            refine r_goto 4 d_68_92 (by decide) ?_
            exact z _
          · skip
            refine r_aload_n 31 d_68_30 rfl rfl ?_
            refine r_getR 34 3 4 6 (some 4) d_68_31 rfl fk_3_22 rfl (by decide) (MT.f4 m.mt) ?_
            refine r_iload_n 35 d_68_34 rfl rfl ?_
            refine r_iald 36 (sg o) (nI (hm S o)) d_68_35 rfl rfl (MT.l6_4 m.mt hj97) (m.hm hoa) ?_
            refine r_if_lt 89 39 d_68_36 (by decide) rfl (fun c_36 => absurd c_36 (nI_pos (by omega))) (fun c_36 => ?_)
            refine r_aload_n 40 d_68_39 rfl rfl ?_
            refine r_getR 43 3 4 6 (some 4) d_68_40 rfl fk_3_22 rfl (by decide) (MT.f4 m.mt) ?_
            refine r_iload_n 44 d_68_43 rfl rfl ?_
            refine r_iald 45 (sg o) (nI (hm S o)) d_68_44 rfl rfl (MT.l6_4 m.mt hj97) (m.hm hoa) ?_
            refine r_iload_n 46 d_68_45 rfl rfl ?_
            refine r_icmp_eq 89 49 d_68_46 (by decide) rfl (fun c_46 => ?_) (fun c_46 => absurd (by rw [hh]) c_46)
            refine r_iinc 92 (nI (sg o + 1)) [rv 3 (some 0), iv (nI r), iv (nI (spt sg (gin S r) (all S) (sg o))), iv (nI (sg o + 1)), iv (nI (3 * sg o))] d_68_89 rfl rfl (nI_1 (sg o)) rfl rfl ?_
            refine r_goto 4 d_68_92 (by decide) ?_
            exact z _
        · have eg : gin S r o = ffI S o r := if_neg hh
          rw [eg] at z
          have inner : ∀ k f, f + k = (fd S o).length → TT 68 15 [rv 3 (some 0), iv (nI r), iv (nI (spt sg (gin S r) (all S) (sg o) + (((fd S o).take f).filter (hitF S r)).length)), iv (nI (sg o)), iv (nI (3 * sg o + f))] [] h 0 0 (fun x h' => h' = h ∧ x = some (iv (nI (inc S r)))) := by
            intro k
            induction k with
            | zero =>
              intro f hf
              obtain rfl : f = (fd S o).length := by omega
              rw [List.take_length]
              refine r_iload 17 d_68_15 rfl rfl ?_
              refine r_iconst 18 (nI 3) d_68_17 rfl (by decide) ?_
              refine r_iload_n 19 d_68_18 rfl rfl ?_
              refine r_imul 20 (nI (3 * sg o)) d_68_19 rfl (pk_mul _ _) ?_
              refine r_aload_n 21 d_68_20 rfl rfl ?_
              refine r_getR 24 3 2 6 (some 2) d_68_21 rfl fk_3_16 rfl (by decide) (MT.f2 m.mt) ?_
              refine r_iload_n 25 d_68_24 rfl rfl ?_
              refine r_iald 26 (sg o) (nI (fd S o).length) d_68_25 rfl rfl (MT.l6_2 m.mt hj97) (m.fl hoa) ?_
              refine r_iadd 27 (nI ((3 * sg o) + ((fd S o).length))) d_68_26 rfl (nI_add (3 * sg o) ((fd S o).length)) ?_
              refine r_icmp_ge 89 30 d_68_27 (by decide) rfl (fun c_27 => ?_) (fun c_27 => absurd (nI_le (Nat.le_refl _) (by omega)) c_27)
              refine r_iinc 92 (nI (sg o + 1)) [rv 3 (some 0), iv (nI r), iv (nI (spt sg (gin S r) (all S) (sg o) + ((fd S o).filter (hitF S r)).length)), iv (nI (sg o + 1)), iv (nI (3 * sg o + (fd S o).length))] d_68_89 rfl rfl (nI_1 (sg o)) rfl rfl ?_
              refine r_goto 4 d_68_92 (by decide) ?_
              exact z _
            | succ k ihk =>
              intro f hf
              obtain ⟨w, hw⟩ : ∃ w, (fd S o)[f]? = some w := ⟨_, List.getElem?_eq_getElem (by omega)⟩
              have z2 := ihk (f + 1) (by omega)
              rw [ff_take hw, ← Nat.add_assoc, ← Nat.add_assoc] at z2
              have hb : 3 * sg o + f < 291 := by omega
              have hfd := m.fd hoa hw
              cases w with
              | none =>
                rw [show hitF S r none = false from rfl, if_neg Bool.false_ne_true, Nat.add_zero] at z2
                refine r_iload 17 d_68_15 rfl rfl ?_
                refine r_iconst 18 (nI 3) d_68_17 rfl (by decide) ?_
                refine r_iload_n 19 d_68_18 rfl rfl ?_
                refine r_imul 20 (nI (3 * sg o)) d_68_19 rfl (pk_mul _ _) ?_
                refine r_aload_n 21 d_68_20 rfl rfl ?_
                refine r_getR 24 3 2 6 (some 2) d_68_21 rfl fk_3_16 rfl (by decide) (MT.f2 m.mt) ?_
                refine r_iload_n 25 d_68_24 rfl rfl ?_
                refine r_iald 26 (sg o) (nI (fd S o).length) d_68_25 rfl rfl (MT.l6_2 m.mt hj97) (m.fl hoa) ?_
                refine r_iadd 27 (nI ((3 * sg o) + ((fd S o).length))) d_68_26 rfl (nI_add (3 * sg o) ((fd S o).length)) ?_
                refine r_icmp_ge 89 30 d_68_27 (by decide) rfl (fun c_27 => absurd c_27 (nI_ge (by omega) (by omega))) (fun c_27 => ?_)
                refine r_aload_n 31 d_68_30 rfl rfl ?_
                refine r_getR 34 3 4 6 (some 4) d_68_31 rfl fk_3_22 rfl (by decide) (MT.f4 m.mt) ?_
                refine r_iload_n 35 d_68_34 rfl rfl ?_
                refine r_iald 36 (sg o) (nI (hm S o)) d_68_35 rfl rfl (MT.l6_4 m.mt hj97) (m.hm hoa) ?_
                refine r_if_lt 89 39 d_68_36 (by decide) rfl (fun c_36 => absurd c_36 (nI_pos (by omega))) (fun c_36 => ?_)
                refine r_aload_n 40 d_68_39 rfl rfl ?_
                refine r_getR 43 3 4 6 (some 4) d_68_40 rfl fk_3_22 rfl (by decide) (MT.f4 m.mt) ?_
                refine r_iload_n 44 d_68_43 rfl rfl ?_
                refine r_iald 45 (sg o) (nI (hm S o)) d_68_44 rfl rfl (MT.l6_4 m.mt hj97) (m.hm hoa) ?_
                refine r_iload_n 46 d_68_45 rfl rfl ?_
                refine r_icmp_eq 89 49 d_68_46 (by decide) rfl (fun c_46 => absurd c_46 (fun z => hh ((nI_eq (by omega) (by omega)).mp z))) (fun c_46 => ?_)
                refine r_iload_n 50 d_68_49 rfl rfl ?_
                refine r_aload_n 51 d_68_50 rfl rfl ?_
                refine r_getR 54 3 3 6 (some 3) d_68_51 rfl fk_3_19 rfl (by decide) (MT.f3 m.mt) ?_
                refine r_iload 56 d_68_54 rfl rfl ?_
                refine r_iald 57 (3 * sg o + f) (-1) d_68_56 rfl rfl (MT.l6_3 m.mt hb) hfd ?_
                refine r_if_lt 80 60 d_68_57 (by decide) rfl (fun c_57 => ?_) (fun c_57 => absurd (by decide) c_57)
                refine r_iconst 81 (nI 0) d_68_80 rfl (by decide) ?_
                refine r_iadd 82 (nI ((spt sg (gin S r) (all S) (sg o) + (((fd S o).take f).filter (hitF S r)).length) + 0)) d_68_81 rfl (nI_add (spt sg (gin S r) (all S) (sg o) + (((fd S o).take f).filter (hitF S r)).length) 0) ?_
                refine r_istore_n 83 [rv 3 (some 0), iv (nI r), iv (nI ((spt sg (gin S r) (all S) (sg o) + (((fd S o).take f).filter (hitF S r)).length) + 0)), iv (nI (sg o)), iv (nI (3 * sg o + f))] d_68_82 rfl rfl rfl ?_
                refine r_iinc 86 (nI (3 * sg o + f + 1)) [rv 3 (some 0), iv (nI r), iv (nI ((spt sg (gin S r) (all S) (sg o) + (((fd S o).take f).filter (hitF S r)).length) + 0)), iv (nI (sg o)), iv (nI (3 * sg o + f + 1))] d_68_83 rfl rfl (nI_1 (3 * sg o + f)) rfl rfl ?_
                refine r_goto 15 d_68_86 (by decide) ?_
                exact z2
              | some o2 =>
                have ho2 := v.2.2.2.1 o o2 hoa (List.mem_of_getElem? hw)
                have hs2 := m.lt ho2
                have hr2 := hm_lt v.cl ho2
                refine r_iload 17 d_68_15 rfl rfl ?_
                refine r_iconst 18 (nI 3) d_68_17 rfl (by decide) ?_
                refine r_iload_n 19 d_68_18 rfl rfl ?_
                refine r_imul 20 (nI (3 * sg o)) d_68_19 rfl (pk_mul _ _) ?_
                refine r_aload_n 21 d_68_20 rfl rfl ?_
                refine r_getR 24 3 2 6 (some 2) d_68_21 rfl fk_3_16 rfl (by decide) (MT.f2 m.mt) ?_
                refine r_iload_n 25 d_68_24 rfl rfl ?_
                refine r_iald 26 (sg o) (nI (fd S o).length) d_68_25 rfl rfl (MT.l6_2 m.mt hj97) (m.fl hoa) ?_
                refine r_iadd 27 (nI ((3 * sg o) + ((fd S o).length))) d_68_26 rfl (nI_add (3 * sg o) ((fd S o).length)) ?_
                refine r_icmp_ge 89 30 d_68_27 (by decide) rfl (fun c_27 => absurd c_27 (nI_ge (by omega) (by omega))) (fun c_27 => ?_)
                refine r_aload_n 31 d_68_30 rfl rfl ?_
                refine r_getR 34 3 4 6 (some 4) d_68_31 rfl fk_3_22 rfl (by decide) (MT.f4 m.mt) ?_
                refine r_iload_n 35 d_68_34 rfl rfl ?_
                refine r_iald 36 (sg o) (nI (hm S o)) d_68_35 rfl rfl (MT.l6_4 m.mt hj97) (m.hm hoa) ?_
                refine r_if_lt 89 39 d_68_36 (by decide) rfl (fun c_36 => absurd c_36 (nI_pos (by omega))) (fun c_36 => ?_)
                refine r_aload_n 40 d_68_39 rfl rfl ?_
                refine r_getR 43 3 4 6 (some 4) d_68_40 rfl fk_3_22 rfl (by decide) (MT.f4 m.mt) ?_
                refine r_iload_n 44 d_68_43 rfl rfl ?_
                refine r_iald 45 (sg o) (nI (hm S o)) d_68_44 rfl rfl (MT.l6_4 m.mt hj97) (m.hm hoa) ?_
                refine r_iload_n 46 d_68_45 rfl rfl ?_
                refine r_icmp_eq 89 49 d_68_46 (by decide) rfl (fun c_46 => absurd c_46 (fun z => hh ((nI_eq (by omega) (by omega)).mp z))) (fun c_46 => ?_)
                refine r_iload_n 50 d_68_49 rfl rfl ?_
                refine r_aload_n 51 d_68_50 rfl rfl ?_
                refine r_getR 54 3 3 6 (some 3) d_68_51 rfl fk_3_19 rfl (by decide) (MT.f3 m.mt) ?_
                refine r_iload 56 d_68_54 rfl rfl ?_
                refine r_iald 57 (3 * sg o + f) (nI (sg o2)) d_68_56 rfl rfl (MT.l6_3 m.mt hb) hfd ?_
                refine r_if_lt 80 60 d_68_57 (by decide) rfl (fun c_57 => absurd c_57 (nI_pos (by omega))) (fun c_57 => ?_)
                refine r_aload_n 61 d_68_60 rfl rfl ?_
                refine r_getR 64 3 4 6 (some 4) d_68_61 rfl fk_3_22 rfl (by decide) (MT.f4 m.mt) ?_
                refine r_aload_n 65 d_68_64 rfl rfl ?_
                refine r_getR 68 3 3 6 (some 3) d_68_65 rfl fk_3_19 rfl (by decide) (MT.f3 m.mt) ?_
                refine r_iload 70 d_68_68 rfl rfl ?_
                refine r_iald 71 (3 * sg o + f) (nI (sg o2)) d_68_70 rfl rfl (MT.l6_3 m.mt hb) hfd ?_
                refine r_iald 72 (sg o2) (nI (hm S o2)) d_68_71 rfl rfl (MT.l6_4 m.mt hs2) (m.hm ho2) ?_
                refine r_iload_n 73 d_68_72 rfl rfl ?_
                refine r_icmp_ne 80 76 d_68_73 (by decide) rfl (fun c_73 => ?_) (fun c_73 => ?_)
                · skip
                  refine r_iconst 81 (nI 0) d_68_80 rfl (by decide) ?_
                  refine r_iadd 82 (nI ((spt sg (gin S r) (all S) (sg o) + (((fd S o).take f).filter (hitF S r)).length) + 0)) d_68_81 rfl (nI_add (spt sg (gin S r) (all S) (sg o) + (((fd S o).take f).filter (hitF S r)).length) 0) ?_
                  refine r_istore_n 83 [rv 3 (some 0), iv (nI r), iv (nI ((spt sg (gin S r) (all S) (sg o) + (((fd S o).take f).filter (hitF S r)).length) + 0)), iv (nI (sg o)), iv (nI (3 * sg o + f))] d_68_82 rfl rfl rfl ?_
                  refine r_iinc 86 (nI (3 * sg o + f + 1)) [rv 3 (some 0), iv (nI r), iv (nI ((spt sg (gin S r) (all S) (sg o) + (((fd S o).take f).filter (hitF S r)).length) + 0)), iv (nI (sg o)), iv (nI (3 * sg o + f + 1))] d_68_83 rfl rfl (nI_1 (3 * sg o + f)) rfl rfl ?_
                  refine r_goto 15 d_68_86 (by decide) ?_
                  first
                  | (rw [show hitF S r (some o2) = false from decide_eq_false (fun q => c_73 (by rw [q])), if_neg Bool.false_ne_true, Nat.add_zero] at z2; exact z2)
                  | (rw [show hitF S r (some o2) = true from decide_eq_true ((nI_eq (by omega) (by omega)).mp c_73), if_pos rfl] at z2; exact z2)
                · skip
                  refine r_iconst 77 (nI 1) d_68_76 rfl (by decide) ?_
                  refine r_goto 81 d_68_77 (by decide) ?_
                  refine r_iadd 82 (nI ((spt sg (gin S r) (all S) (sg o) + (((fd S o).take f).filter (hitF S r)).length) + 1)) d_68_81 rfl (nI_add (spt sg (gin S r) (all S) (sg o) + (((fd S o).take f).filter (hitF S r)).length) 1) ?_
                  refine r_istore_n 83 [rv 3 (some 0), iv (nI r), iv (nI ((spt sg (gin S r) (all S) (sg o) + (((fd S o).take f).filter (hitF S r)).length) + 1)), iv (nI (sg o)), iv (nI (3 * sg o + f))] d_68_82 rfl rfl rfl ?_
                  refine r_iinc 86 (nI (3 * sg o + f + 1)) [rv 3 (some 0), iv (nI r), iv (nI ((spt sg (gin S r) (all S) (sg o) + (((fd S o).take f).filter (hitF S r)).length) + 1)), iv (nI (sg o)), iv (nI (3 * sg o + f + 1))] d_68_83 rfl rfl (nI_1 (3 * sg o + f)) rfl rfl ?_
                  refine r_goto 15 d_68_86 (by decide) ?_
                  first
                  | (rw [show hitF S r (some o2) = false from decide_eq_false (fun q => c_73 (by rw [q])), if_neg Bool.false_ne_true, Nat.add_zero] at z2; exact z2)
                  | (rw [show hitF S r (some o2) = true from decide_eq_true ((nI_eq (by omega) (by omega)).mp c_73), if_pos rfl] at z2; exact z2)
          have z3 := inner (fd S o).length 0 (by omega)
          rw [show (((fd S o).take 0).filter (hitF S r)).length = 0 from rfl, Nat.add_zero, Nat.add_zero] at z3
          refine r_iload_n 5 d_68_4 rfl rfl ?_
          refine r_bipush 7 (nI 97) d_68_5 rfl (by decide) ?_
          refine r_icmp_ge 95 10 d_68_7 (by decide) rfl (fun c_7 => absurd c_7 (nI_ge hj97 (by decide))) (fun c_7 => ?_)
          refine r_iconst 11 (nI 3) d_68_10 rfl (by decide) ?_
          refine r_iload_n 12 d_68_11 rfl rfl ?_
          refine r_imul 13 (nI (3 * sg o)) d_68_12 rfl (pk_mul _ _) ?_
          refine r_istore 15 [rv 3 (some 0), iv (nI r), iv (nI (spt sg (gin S r) (all S) (sg o))), iv (nI (sg o)), iv (nI (3 * sg o))] d_68_13 rfl rfl rfl ?_
          exact z3
      · have hmiss : ∀ o, o ∈ all S → sg o ≠ j := fun o ho e => hex ⟨o, ho, e⟩
        have z := fun u => ih (j + 1) u (by omega)
        rw [spt_miss _ hmiss] at z
        have hfr := m.fr hj97 hmiss
        refine r_iload_n 5 d_68_4 rfl rfl ?_
        refine r_bipush 7 (nI 97) d_68_5 rfl (by decide) ?_
        refine r_icmp_ge 95 10 d_68_7 (by decide) rfl (fun c_7 => absurd c_7 (nI_ge hj97 (by decide))) (fun c_7 => ?_)
        refine r_iconst 11 (nI 3) d_68_10 rfl (by decide) ?_
        refine r_iload_n 12 d_68_11 rfl rfl ?_
        refine r_imul 13 (nI (3 * j)) d_68_12 rfl (pk_mul _ _) ?_
        refine r_istore 15 [rv 3 (some 0), iv (nI r), iv (nI (spt sg (gin S r) (all S) j)), iv (nI j), iv (nI (3 * j))] d_68_13 rfl rfl rfl ?_
        refine r_iload 17 d_68_15 rfl rfl ?_
        refine r_iconst 18 (nI 3) d_68_17 rfl (by decide) ?_
        refine r_iload_n 19 d_68_18 rfl rfl ?_
        refine r_imul 20 (nI (3 * j)) d_68_19 rfl (pk_mul _ _) ?_
        refine r_aload_n 21 d_68_20 rfl rfl ?_
        refine r_getR 24 3 2 6 (some 2) d_68_21 rfl fk_3_16 rfl (by decide) (MT.f2 m.mt) ?_
        refine r_iload_n 25 d_68_24 rfl rfl ?_
        refine r_iald 26 j (hI h 6 2 j) d_68_25 rfl rfl (MT.l6_2 m.mt hj97) rfl ?_
        refine r_iadd 27 ((nI (3 * j)) + (hI h 6 2 j)) d_68_26 rfl rfl ?_
        refine r_icmp_ge 89 30 d_68_27 (by decide) rfl (fun c_27 => ?_) (fun c_27 => ?_)
        · skip
          refine r_iinc 92 (nI (j + 1)) [rv 3 (some 0), iv (nI r), iv (nI (spt sg (gin S r) (all S) j)), iv (nI (j + 1)), iv (nI (3 * j))] d_68_89 rfl rfl (nI_1 j) rfl rfl ?_
          refine r_goto 4 d_68_92 (by decide) ?_
          exact z _
        · skip
          refine r_aload_n 31 d_68_30 rfl rfl ?_
          refine r_getR 34 3 4 6 (some 4) d_68_31 rfl fk_3_22 rfl (by decide) (MT.f4 m.mt) ?_
          refine r_iload_n 35 d_68_34 rfl rfl ?_
          refine r_iald 36 j (-1) d_68_35 rfl rfl (MT.l6_4 m.mt hj97) hfr ?_
          refine r_if_lt 89 39 d_68_36 (by decide) rfl (fun c_36 => ?_) (fun c_36 => absurd (by decide) c_36)
          refine r_iinc 92 (nI (j + 1)) [rv 3 (some 0), iv (nI r), iv (nI (spt sg (gin S r) (all S) j)), iv (nI (j + 1)), iv (nI (3 * j))] d_68_89 rfl rfl (nI_1 j) rfl rfl ?_
          refine r_goto 4 d_68_92 (by decide) ?_
          exact z _
  refine r_iconst 1 (nI 0) d_68_0 rfl (by decide) ?_
  refine r_istore_n 2 [rv 3 (some 0), iv (nI r), iv (nI 0), un, un] d_68_1 rfl rfl rfl ?_
  refine r_iconst 3 (nI 0) d_68_2 rfl (by decide) ?_
  refine r_istore_n 4 [rv 3 (some 0), iv (nI r), iv (nI 0), iv (nI 0), un] d_68_3 rfl rfl rfl ?_
  have z := loop 97 0 un rfl
  rw [spt_0] at z
  exact z
theorem m_incoming {h : AH} {S : SS} {sg : Nat → Nat} (m : RM h S sg) (v : IV S) (a : Int32) : TT 99 0 [rv 3 (some 0), iv a] [] h 0 0 (fun x h' => h' = h ∧ x = some (iv (reA (fun r => nI (inc S r)) a))) := by
  cases e1 : ix 12 a with
  | none =>
    have e0 : reA (fun r => nI (inc S r)) a = -1 := by unfold reA; rw [e1]
    rw [e0]
    refine r_aload_n 1 d_99_0 rfl rfl ?_
    refine r_iload_n 2 d_99_1 rfl rfl ?_
    refine r_callV (k1 := 0) (n1 := 0) (k := 0) (n := 0) 5 63 3 [iv a] d_99_2 rfl mk_63 lk_3_155 mv_63 rfl rfl rfl rfl rfl _ (m_noRegion h a) ?_
    intro r_2 h_2 q_2
    obtain ⟨q1, q2⟩ := q_2
    rw [e1] at q2
    subst q2
    rw [q1]
    show TT 99 5 [rv 3 (some 0), iv a] [iv (bI (none : Option Nat).isNone)] h _ _ _
    refine r_if_eq 12 8 d_99_5 (by decide) rfl (fun c_5 => absurd c_5 bI_t0) (fun c_5 => ?_)
    refine r_iconst 9 (-1) d_99_8 rfl (by decide) ?_
    refine r_goto 17 d_99_9 (by decide) ?_
    refine r_ireturn d_99_17 rfl ?_
    exact ⟨rfl, rfl⟩
  | some r =>
    obtain ⟨hr, rfl⟩ := ix_some (by decide) e1
    have e0 : reA (fun r => nI (inc S r)) (nI r) = nI (inc S r) := by unfold reA; rw [e1]
    rw [e0]
    refine r_aload_n 1 d_99_0 rfl rfl ?_
    refine r_iload_n 2 d_99_1 rfl rfl ?_
    refine r_callV (k1 := 0) (n1 := 0) (k := 0) (n := 0) 5 63 3 [iv (nI r)] d_99_2 rfl mk_63 lk_3_155 mv_63 rfl rfl rfl rfl rfl _ (m_noRegion h (nI r)) ?_
    intro r_2 h_2 q_2
    obtain ⟨q1, q2⟩ := q_2
    rw [e1] at q2
    subst q2
    rw [q1]
    show TT 99 5 [rv 3 (some 0), iv (nI r)] [iv (bI (some r).isNone)] h _ _ _
    refine r_if_eq 12 8 d_99_5 (by decide) rfl (fun c_5 => ?_) (fun c_5 => absurd rfl c_5)
    refine r_aload_n 13 d_99_12 rfl rfl ?_
    refine r_iload_n 14 d_99_13 rfl rfl ?_
    refine r_callV (k1 := 0) (n1 := 0) (k := 0) (n := 0) 17 68 3 [iv (nI r)] d_99_14 rfl mk_68 lk_3_88 mv_68 rfl rfl rfl rfl rfl _ (m_incomingOf m v hr) ?_
    intro r_14 h_14 q_14
    obtain ⟨q1, q2⟩ := q_14
    subst q2
    rw [q1]
    show TT 99 17 [rv 3 (some 0), iv (nI r)] [iv (nI (inc S r))] h _ _ _
    refine r_ireturn d_99_17 rfl ?_
    exact ⟨rfl, rfl⟩
