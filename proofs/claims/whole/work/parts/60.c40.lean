/-! contracts of the reference: marking -/
theorem sum_erase (g : Nat → Nat) {a : Nat} : ∀ (l : List Nat), a ∈ l → (l.map g).sum = g a + ((l.erase a).map g).sum
  | [], h => by cases h
  | b :: l, h => by
    by_cases e : b = a
    · subst e
      simp
    · have h2 : a ∈ l := by
        rcases List.mem_cons.mp h with q | q
        · exact absurd q.symm e
        · exact q
      rw [List.erase_cons_tail (by simpa using e), List.map_cons, List.sum_cons, List.map_cons, List.sum_cons, sum_erase g l h2]
      omega
theorem sum_same (g : Nat → Nat) : ∀ (l k : List Nat), l.Nodup → k.Nodup → (∀ x, x ∈ l ↔ x ∈ k) → (l.map g).sum = (k.map g).sum
  | [], k, _, _, h => by
    cases k with
    | nil => rfl
    | cons a k => exact absurd ((h a).mpr List.mem_cons_self) (by simp)
  | a :: l, k, hl, hk, h => by
    obtain ⟨n1, n2⟩ := List.nodup_cons.mp hl
    rw [sum_erase g k ((h a).mp List.mem_cons_self), List.map_cons, List.sum_cons]
    congr 1
    refine sum_same g l (k.erase a) n2 (hk.erase a) (fun x => ?_)
    rw [hk.mem_erase_iff, ← h x, List.mem_cons]
    constructor
    · intro hx
      exact ⟨fun z => n1 (z ▸ hx), Or.inr hx⟩
    · rintro ⟨h1, h2 | h2⟩
      · exact absurd h2 h1
      · exact h2
theorem smf_one {f : Nat → Nat} {r : Nat} : ∀ n, (∀ q, q < n → q ≠ r → f q = 0) → smf f n = if r < n then f r else 0
  | 0, _ => by rw [if_neg (by omega)]; rfl
  | n + 1, h => by
    rw [smf, smf_one n (fun q hq => h q (by omega))]
    by_cases e : n = r
    · subst e
      rw [if_neg (by omega), if_pos (by omega)]
      omega
    · rw [h n (by omega) e]
      by_cases e2 : r < n
      · rw [if_pos e2, if_pos (by omega)]; omega
      · rw [if_neg e2, if_neg (by omega)]
def gM (S : SS) (fl : List Nat) (o : Nat) : Nat := if rin fl o = true then wd S o else 0
def gL (S : SS) (fl : List Nat) (r o : Nat) : Nat := if hm S o = r then gM S fl o else 0
theorem gM_sum (S : SS) (fl : List Nat) : ∀ l : List Nat, (l.map (gM S fl)).sum = sw S (l.filter (rin fl))
  | [] => rfl
  | o :: l => by
    rw [List.map_cons, List.sum_cons, gM_sum S fl l, List.filter_cons]
    unfold gM
    by_cases e : rin fl o = true
    · rw [if_pos e, if_pos e]; simp [sw]
    · rw [if_neg e, if_neg e]; simp
theorem gM_all {S : SS} (v : IV S) {fl : List Nat} (rl : RL S fl) : ((all S).map (gM S fl)).sum = sw S fl := by
  rw [gM_sum]
  refine sum_same (wd S) _ _ (v.cl.2.2.1.filter _) rl.1 (fun x => ?_)
  rw [List.mem_filter]
  exact ⟨fun z => rin_t z.2, fun z => ⟨rl.2.1 x z, decide_eq_true z⟩⟩
theorem gL_all {S : SS} (v : IV S) (fl : List Nat) {r : Nat} (hr : r < 12) : ((all S).map (gL S fl r)).sum = swr S fl r := by
  unfold all
  rw [smf_flat, smf_one (r := r) 12, if_pos hr]
  · have e : (itm S r).map (gL S fl r) = (itm S r).map (gM S fl) := List.map_congr_left (fun o ho => if_pos (v.2.1.hm hr ho))
    rw [e, gM_sum]
    rfl
  · intro q hq hne
    have e : (itm S q).map (gL S fl r) = (itm S q).map (fun _ => 0) := List.map_congr_left (fun o ho => if_neg (by rw [v.2.1.hm hq ho]; exact hne))
    rw [e]
    induction itm S q with
    | nil => rfl
    | cons a l ih => simpa using ih
/-- the live words so far -/
def mjS (S : SS) (fl : List Nat) (sg : Nat → Nat) (n j : Nat) : SS := mkS (kd S) (us S) (fun r => if r < n ∧ 1 ≤ kd S r ∧ kd S r ≤ 3 then some (spt sg (gL S fl r) (all S) j) else lw S r) (itm S) (ro S) (wd S) (fd S) (hm S) (so S) (cu S) (ct S)
theorem rx_lw {h : AH} {S T T' : SS} {sg : Nat → Nat} (m : RX h S T sg) {r : Nat} {x : Option Nat} (e : T' = mkS (kd T) (us T) (lw T') (itm T) (ro T) (wd T) (fd T) (hm T) (so T) (cu T) (ct T)) (hl : ∀ q, q < 12 → lw T' q = if q = r then x else lw T q) : RX (sI h 6 10 r (ol x)) S T' sg := by
  rw [e]
  refine RX_reg m (XG_sI (XG.rf h) rfl) (fun q hq => ⟨?_, ?_, ?_⟩) m.cu (fun k hk => ?_) ⟨rfl, rfl, rfl⟩ ⟨rfl, rfl, rfl, rfl⟩
  · exact (w6n (by decide)).trans (m.kd hq)
  · exact (w6n (by decide)).trans (m.us hq)
  · show hI (sI h 6 10 r (ol x)) 6 10 q = ol (lw T' q)
    rw [wA, hl q hq]
    by_cases e : q = r
    · rw [if_pos e, if_pos e]
    · rw [if_neg e, if_neg e]; exact m.lw hq
  · exact (w6n (by decide)).trans (m.ct hk)
theorem rx_eq {h : AH} {S T T' : SS} {sg : Nat → Nat} (m : RX h S T sg) (e : T' = mkS (kd T) (us T) (lw T') (itm T) (ro T) (wd T) (fd T) (hm T) (so T) (cu T) (ct T)) (hl : ∀ q, q < 12 → lw T' q = lw T q) : RX h S T' sg := by
  rw [e]
  exact RX_reg m (XG.rf h) (fun q hq => ⟨m.kd hq, m.us hq, (m.lw hq).trans (congrArg ol (hl q hq).symm)⟩) m.cu (fun k hk => m.ct hk) ⟨rfl, rfl, rfl⟩ ⟨rfl, rfl, rfl, rfl⟩
theorem m_mark {h : AH} {S : SS} {sg : Nat → Nat} (m : RM h S sg) (v : IV S) : TT 65 0 [rv 3 (some 0), un, un] [] h 0 0 (fun x h' => ∃ fl, RL S fl ∧ x = some (iv (nI (sw S fl))) ∧ RM h' (mkL S fl 12) sg ∧ MF h h') := by
  have b := v.bd
  have sums : ∀ fl, RL S fl → ∀ n j h1, j + n = 97 → RX h1 S (mjS S fl sg 12 j) sg → MF h h1 → (∀ o, o ∈ all S → hI h1 7 2 (sg o) = bI (rin fl o)) → TT 65 49 [rv 3 (some 0), iv (nI (spt sg (gM S fl) (all S) j)), iv (nI j)] [] h1 0 0 (fun x h' => ∃ fl, RL S fl ∧ x = some (iv (nI (sw S fl))) ∧ RM h' (mkL S fl 12) sg ∧ MF h h') := by
    intro fl rl n
    induction n with
    | zero =>
      intro j h1 hj m1 mf fr
      obtain rfl : j = 97 := by omega
      refine r_iload_n 50 d_65_49 rfl rfl ?_
      refine r_bipush 52 (nI 97) d_65_50 rfl (by decide) ?_
      refine r_icmp_ge 132 55 d_65_52 (by decide) rfl (fun c_52 => ?_) (fun c_52 => absurd (nI_le (Nat.le_refl _) (by decide)) c_52)
      refine r_iload_n 133 d_65_132 rfl rfl ?_
      refine r_ireturn d_65_133 rfl ?_
      refine ⟨fl, rl, ?_, ?_, mf⟩
      · rw [spt_all _ (fun o ho => m.lt ho), gM_all v rl]
      · refine rx_eq m1 rfl (fun q hq => ?_)
        show (if q < 12 ∧ 1 ≤ kd S q ∧ kd S q ≤ 3 then some (swr S fl q) else lw S q) = (if q < 12 ∧ 1 ≤ kd S q ∧ kd S q ≤ 3 then some (spt sg (gL S fl q) (all S) 97) else lw S q)
        rw [spt_all _ (fun o ho => m.lt ho), gL_all v fl hq]
    | succ n ih =>
      intro j h1 hj m1 mf fr
      have hj97 : j < 97 := by omega
      by_cases hex : ∃ o, o ∈ all S ∧ sg o = j
      · obtain ⟨o, hoa, rfl⟩ := hex
        have es : ∀ g, spt sg g (all S) (sg o + 1) = spt sg g (all S) (sg o) + g o := fun g => spt_hit _ v.cl.2.2.1 hoa rfl (fun y hy e => m.inj hy hoa e)
        have hr12 := hm_lt v.cl hoa
        have hhm := m1.hm hoa
        have hwd := m1.wd hoa
        have hfr := fr o hoa
        have z := ih (sg o + 1)
        rw [es] at z
        have hk5 := b.kd hr12
        obtain ⟨r', hr', hit⟩ := mem_all.mp hoa
        have hr'e := v.2.1.hm hr' hit
        subst hr'e
        have hne : itm S (hm S o) ≠ [] := fun y => by rw [y] at hit; cases hit
        have hk0 : kd S (hm S o) ≠ 0 := fun y => hne ((v.1 _ hr12).1 y).1
        have hk5' : kd S (hm S o) ≠ 5 := fun y => hne ((v.1 _ hr12).2.2.2.1 y).1
        by_cases hin : rin fl o = true
        · have eM : gM S fl o = wd S o := if_pos hin
          rw [eM] at z
          rw [hin] at hfr
          by_cases h4 : kd S (hm S o) = 4
          · skip
            refine r_iload_n 50 d_65_49 rfl rfl ?_
            refine r_bipush 52 (nI 97) d_65_50 rfl (by decide) ?_
            refine r_icmp_ge 132 55 d_65_52 (by decide) rfl (fun c_52 => absurd c_52 (nI_ge hj97 (by decide))) (fun c_52 => ?_)
            refine r_aload_n 56 d_65_55 rfl rfl ?_
            refine r_getR 59 3 4 6 (some 4) d_65_56 rfl fk_3_22 rfl (by decide) (MT.f4 m1.mt) ?_
            refine r_iload_n 60 d_65_59 rfl rfl ?_
            refine r_iald 61 (sg o) (nI (hm S o)) d_65_60 rfl rfl (MT.l6_4 m1.mt hj97) hhm ?_
            refine r_if_lt 126 64 d_65_61 (by decide) rfl (fun c_61 => absurd c_61 (nI_pos (by omega))) (fun c_61 => ?_)
            refine r_aload_n 65 d_65_64 rfl rfl ?_
            refine r_getR 68 3 23 7 (some 2) d_65_65 rfl fk_3_75 rfl (by decide) (MT.f23 m1.mt) ?_
            refine r_iload_n 69 d_65_68 rfl rfl ?_
            refine r_bald 70 (sg o) (bI true) d_65_69 rfl rfl (MT.l7_2 m1.mt hj97) hfr ?_
            refine r_if_eq 126 73 d_65_70 (by decide) rfl (fun c_70 => absurd c_70 bI_t0) (fun c_70 => ?_)
            refine r_iload_n 74 d_65_73 rfl rfl ?_
            refine r_aload_n 75 d_65_74 rfl rfl ?_
            refine r_getR 78 3 1 6 (some 1) d_65_75 rfl fk_3_13 rfl (by decide) (MT.f1 m1.mt) ?_
            refine r_iload_n 79 d_65_78 rfl rfl ?_
            refine r_iald 80 (sg o) (nI (wd S o)) d_65_79 rfl rfl (MT.l6_1 m1.mt hj97) hwd ?_
            refine r_iadd 81 (nI ((spt sg (gM S fl) (all S) (sg o)) + (wd S o))) d_65_80 rfl (nI_add (spt sg (gM S fl) (all S) (sg o)) (wd S o)) ?_
            refine r_istore_n 82 [rv 3 (some 0), iv (nI ((spt sg (gM S fl) (all S) (sg o)) + (wd S o))), iv (nI (sg o))] d_65_81 rfl rfl rfl ?_
            refine r_aload_n 83 d_65_82 rfl rfl ?_
            refine r_getR 86 3 8 6 (some 8) d_65_83 rfl fk_3_34 rfl (by decide) (MT.f8 m1.mt) ?_
            refine r_aload_n 87 d_65_86 rfl rfl ?_
            refine r_getR 90 3 4 6 (some 4) d_65_87 rfl fk_3_22 rfl (by decide) (MT.f4 m1.mt) ?_
            refine r_iload_n 91 d_65_90 rfl rfl ?_
            refine r_iald 92 (sg o) (nI (hm S o)) d_65_91 rfl rfl (MT.l6_4 m1.mt hj97) hhm ?_
            refine r_iald 93 (hm S o) (nI (kd S (hm S o))) d_65_92 rfl rfl (MT.l6_8 m1.mt hr12) (m1.kd hr12) ?_
            refine r_iconst 94 (nI 4) d_65_93 rfl (by decide) ?_
            refine r_icmp_eq 126 97 d_65_94 (by decide) rfl (fun c_94 => ?_) (fun c_94 => absurd (by rw [h4]) c_94)
            refine r_iinc 129 (nI (sg o + 1)) [rv 3 (some 0), iv (nI ((spt sg (gM S fl) (all S) (sg o)) + (wd S o))), iv (nI (sg o + 1))] d_65_126 rfl rfl (nI_1 (sg o)) rfl rfl ?_
            refine r_goto 49 d_65_129 (by decide) ?_
            refine z h1 (by omega) (rx_eq m1 rfl (fun q hq => ?_)) mf fr
            show (if q < 12 ∧ 1 ≤ kd S q ∧ kd S q ≤ 3 then some (spt sg (gL S fl q) (all S) (sg o + 1)) else lw S q) = (if q < 12 ∧ 1 ≤ kd S q ∧ kd S q ≤ 3 then some (spt sg (gL S fl q) (all S) (sg o)) else lw S q)
            by_cases e : q < 12 ∧ 1 ≤ kd S q ∧ kd S q ≤ 3
            · rw [if_pos e, if_pos e, es, show gL S fl q o = 0 from if_neg (fun y => by rw [← y] at e; omega)]; rfl
            · rw [if_neg e, if_neg e]
          · have h13 : hm S o < 12 ∧ 1 ≤ kd S (hm S o) ∧ kd S (hm S o) ≤ 3 := by omega
            have hlv : hI h1 6 10 (hm S o) = nI (spt sg (gL S fl (hm S o)) (all S) (sg o)) := (m1.lw hr12).trans (congrArg ol (if_pos h13))
            refine r_iload_n 50 d_65_49 rfl rfl ?_
            refine r_bipush 52 (nI 97) d_65_50 rfl (by decide) ?_
            refine r_icmp_ge 132 55 d_65_52 (by decide) rfl (fun c_52 => absurd c_52 (nI_ge hj97 (by decide))) (fun c_52 => ?_)
            refine r_aload_n 56 d_65_55 rfl rfl ?_
            refine r_getR 59 3 4 6 (some 4) d_65_56 rfl fk_3_22 rfl (by decide) (MT.f4 m1.mt) ?_
            refine r_iload_n 60 d_65_59 rfl rfl ?_
            refine r_iald 61 (sg o) (nI (hm S o)) d_65_60 rfl rfl (MT.l6_4 m1.mt hj97) hhm ?_
            refine r_if_lt 126 64 d_65_61 (by decide) rfl (fun c_61 => absurd c_61 (nI_pos (by omega))) (fun c_61 => ?_)
            refine r_aload_n 65 d_65_64 rfl rfl ?_
            refine r_getR 68 3 23 7 (some 2) d_65_65 rfl fk_3_75 rfl (by decide) (MT.f23 m1.mt) ?_
            refine r_iload_n 69 d_65_68 rfl rfl ?_
            refine r_bald 70 (sg o) (bI true) d_65_69 rfl rfl (MT.l7_2 m1.mt hj97) hfr ?_
            refine r_if_eq 126 73 d_65_70 (by decide) rfl (fun c_70 => absurd c_70 bI_t0) (fun c_70 => ?_)
            refine r_iload_n 74 d_65_73 rfl rfl ?_
            refine r_aload_n 75 d_65_74 rfl rfl ?_
            refine r_getR 78 3 1 6 (some 1) d_65_75 rfl fk_3_13 rfl (by decide) (MT.f1 m1.mt) ?_
            refine r_iload_n 79 d_65_78 rfl rfl ?_
            refine r_iald 80 (sg o) (nI (wd S o)) d_65_79 rfl rfl (MT.l6_1 m1.mt hj97) hwd ?_
            refine r_iadd 81 (nI ((spt sg (gM S fl) (all S) (sg o)) + (wd S o))) d_65_80 rfl (nI_add (spt sg (gM S fl) (all S) (sg o)) (wd S o)) ?_
            refine r_istore_n 82 [rv 3 (some 0), iv (nI ((spt sg (gM S fl) (all S) (sg o)) + (wd S o))), iv (nI (sg o))] d_65_81 rfl rfl rfl ?_
            refine r_aload_n 83 d_65_82 rfl rfl ?_
            refine r_getR 86 3 8 6 (some 8) d_65_83 rfl fk_3_34 rfl (by decide) (MT.f8 m1.mt) ?_
            refine r_aload_n 87 d_65_86 rfl rfl ?_
            refine r_getR 90 3 4 6 (some 4) d_65_87 rfl fk_3_22 rfl (by decide) (MT.f4 m1.mt) ?_
            refine r_iload_n 91 d_65_90 rfl rfl ?_
            refine r_iald 92 (sg o) (nI (hm S o)) d_65_91 rfl rfl (MT.l6_4 m1.mt hj97) hhm ?_
            refine r_iald 93 (hm S o) (nI (kd S (hm S o))) d_65_92 rfl rfl (MT.l6_8 m1.mt hr12) (m1.kd hr12) ?_
            refine r_iconst 94 (nI 4) d_65_93 rfl (by decide) ?_
            refine r_icmp_eq 126 97 d_65_94 (by decide) rfl (fun c_94 => absurd c_94 (fun y => h4 ((nI_eq (by omega) (by decide)).mp y))) (fun c_94 => ?_)
            refine r_aload_n 98 d_65_97 rfl rfl ?_
            refine r_getR 101 3 10 6 (some 10) d_65_98 rfl fk_3_40 rfl (by decide) (MT.f10 m1.mt) ?_
            refine r_aload_n 102 d_65_101 rfl rfl ?_
            refine r_getR 105 3 4 6 (some 4) d_65_102 rfl fk_3_22 rfl (by decide) (MT.f4 m1.mt) ?_
            refine r_iload_n 106 d_65_105 rfl rfl ?_
            refine r_iald 107 (sg o) (nI (hm S o)) d_65_106 rfl rfl (MT.l6_4 m1.mt hj97) hhm ?_
            refine r_aload_n 108 d_65_107 rfl rfl ?_
            refine r_getR 111 3 10 6 (some 10) d_65_108 rfl fk_3_40 rfl (by decide) (MT.f10 m1.mt) ?_
            refine r_aload_n 112 d_65_111 rfl rfl ?_
            refine r_getR 115 3 4 6 (some 4) d_65_112 rfl fk_3_22 rfl (by decide) (MT.f4 m1.mt) ?_
            refine r_iload_n 116 d_65_115 rfl rfl ?_
            refine r_iald 117 (sg o) (nI (hm S o)) d_65_116 rfl rfl (MT.l6_4 m1.mt hj97) hhm ?_
            refine r_iald 118 (hm S o) (nI (spt sg (gL S fl (hm S o)) (all S) (sg o))) d_65_117 rfl rfl (MT.l6_10 m1.mt hr12) hlv ?_
            refine r_aload_n 119 d_65_118 rfl rfl ?_
            refine r_getR 122 3 1 6 (some 1) d_65_119 rfl fk_3_13 rfl (by decide) (MT.f1 m1.mt) ?_
            refine r_iload_n 123 d_65_122 rfl rfl ?_
            refine r_iald 124 (sg o) (nI (wd S o)) d_65_123 rfl rfl (MT.l6_1 m1.mt hj97) hwd ?_
            refine r_iadd 125 (nI ((spt sg (gL S fl (hm S o)) (all S) (sg o)) + (wd S o))) d_65_124 rfl (nI_add (spt sg (gL S fl (hm S o)) (all S) (sg o)) (wd S o)) ?_
            refine r_iast 126 (hm S o) d_65_125 rfl rfl (MT.l6_10 m1.mt hr12) ?_
            refine r_iinc 129 (nI (sg o + 1)) [rv 3 (some 0), iv (nI ((spt sg (gM S fl) (all S) (sg o)) + (wd S o))), iv (nI (sg o + 1))] d_65_126 rfl rfl (nI_1 (sg o)) rfl rfl ?_
            refine r_goto 49 d_65_129 (by decide) ?_
            refine z _ (by omega) (rx_lw (x := some (spt sg (gL S fl (hm S o)) (all S) (sg o) + wd S o)) m1 rfl (fun q hq => ?_)) (MF_sI mf rfl) (fun o' ho' => (wS (by decide)).trans (fr o' ho'))
            show (if q < 12 ∧ 1 ≤ kd S q ∧ kd S q ≤ 3 then some (spt sg (gL S fl q) (all S) (sg o + 1)) else lw S q) = if q = hm S o then some (spt sg (gL S fl (hm S o)) (all S) (sg o) + wd S o) else (if q < 12 ∧ 1 ≤ kd S q ∧ kd S q ≤ 3 then some (spt sg (gL S fl q) (all S) (sg o)) else lw S q)
            by_cases e : q = hm S o
            · subst e
              rw [if_pos rfl, if_pos h13, es, show gL S fl (hm S o) o = wd S o from (if_pos rfl).trans eM]
            · rw [if_neg e, es, show gL S fl q o = 0 from if_neg (fun y => e y.symm)]
              rfl
        · have eM : gM S fl o = 0 := if_neg hin
          rw [eM, Nat.add_zero] at z
          rw [Bool.eq_false_iff.mpr hin] at hfr
          refine r_iload_n 50 d_65_49 rfl rfl ?_
          refine r_bipush 52 (nI 97) d_65_50 rfl (by decide) ?_
          refine r_icmp_ge 132 55 d_65_52 (by decide) rfl (fun c_52 => absurd c_52 (nI_ge hj97 (by decide))) (fun c_52 => ?_)
          refine r_aload_n 56 d_65_55 rfl rfl ?_
          refine r_getR 59 3 4 6 (some 4) d_65_56 rfl fk_3_22 rfl (by decide) (MT.f4 m1.mt) ?_
          refine r_iload_n 60 d_65_59 rfl rfl ?_
          refine r_iald 61 (sg o) (nI (hm S o)) d_65_60 rfl rfl (MT.l6_4 m1.mt hj97) hhm ?_
          refine r_if_lt 126 64 d_65_61 (by decide) rfl (fun c_61 => absurd c_61 (nI_pos (by omega))) (fun c_61 => ?_)
          refine r_aload_n 65 d_65_64 rfl rfl ?_
          refine r_getR 68 3 23 7 (some 2) d_65_65 rfl fk_3_75 rfl (by decide) (MT.f23 m1.mt) ?_
          refine r_iload_n 69 d_65_68 rfl rfl ?_
          refine r_bald 70 (sg o) (bI false) d_65_69 rfl rfl (MT.l7_2 m1.mt hj97) hfr ?_
          refine r_if_eq 126 73 d_65_70 (by decide) rfl (fun c_70 => ?_) (fun c_70 => absurd rfl c_70)
          refine r_iinc 129 (nI (sg o + 1)) [rv 3 (some 0), iv (nI (spt sg (gM S fl) (all S) (sg o))), iv (nI (sg o + 1))] d_65_126 rfl rfl (nI_1 (sg o)) rfl rfl ?_
          refine r_goto 49 d_65_129 (by decide) ?_
          refine z h1 (by omega) (rx_eq m1 rfl (fun q hq => ?_)) mf fr
          show (if q < 12 ∧ 1 ≤ kd S q ∧ kd S q ≤ 3 then some (spt sg (gL S fl q) (all S) (sg o + 1)) else lw S q) = (if q < 12 ∧ 1 ≤ kd S q ∧ kd S q ≤ 3 then some (spt sg (gL S fl q) (all S) (sg o)) else lw S q)
          rw [es, show gL S fl q o = 0 from (by unfold gL; rw [eM]; split <;> rfl)]
          rfl
      · have hmiss : ∀ o, o ∈ all S → sg o ≠ j := fun o ho e => hex ⟨o, ho, e⟩
        have hfr := m1.fr hj97 hmiss
        have z := ih (j + 1)
        rw [spt_miss _ hmiss] at z
        refine r_iload_n 50 d_65_49 rfl rfl ?_
        refine r_bipush 52 (nI 97) d_65_50 rfl (by decide) ?_
        refine r_icmp_ge 132 55 d_65_52 (by decide) rfl (fun c_52 => absurd c_52 (nI_ge hj97 (by decide))) (fun c_52 => ?_)
        refine r_aload_n 56 d_65_55 rfl rfl ?_
        refine r_getR 59 3 4 6 (some 4) d_65_56 rfl fk_3_22 rfl (by decide) (MT.f4 m1.mt) ?_
        refine r_iload_n 60 d_65_59 rfl rfl ?_
        refine r_iald 61 j (-1) d_65_60 rfl rfl (MT.l6_4 m1.mt hj97) hfr ?_
        refine r_if_lt 126 64 d_65_61 (by decide) rfl (fun c_61 => ?_) (fun c_61 => absurd (by decide) c_61)
        refine r_iinc 129 (nI (j + 1)) [rv 3 (some 0), iv (nI (spt sg (gM S fl) (all S) j)), iv (nI (j + 1))] d_65_126 rfl rfl (nI_1 j) rfl rfl ?_
        refine r_goto 49 d_65_129 (by decide) ?_
        refine z h1 (by omega) (rx_eq m1 rfl (fun q hq => ?_)) mf fr
        show (if q < 12 ∧ 1 ≤ kd S q ∧ kd S q ≤ 3 then some (spt sg (gL S fl q) (all S) (j + 1)) else lw S q) = (if q < 12 ∧ 1 ≤ kd S q ∧ kd S q ≤ 3 then some (spt sg (gL S fl q) (all S) j) else lw S q)
        rw [spt_miss _ hmiss]
  have zero : ∀ fl, RL S fl → ∀ n r h1, r + n = 12 → RX h1 S (mjS S fl sg r 0) sg → MF h h1 → (∀ o, o ∈ all S → hI h1 7 2 (sg o) = bI (rin fl o)) → TT 65 8 [rv 3 (some 0), iv (nI 0), iv (nI r)] [] h1 0 0 (fun x h' => ∃ fl, RL S fl ∧ x = some (iv (nI (sw S fl))) ∧ RM h' (mkL S fl 12) sg ∧ MF h h') := by
    intro fl rl n
    induction n with
    | zero =>
      intro r h1 hr m1 mf fr
      obtain rfl : r = 12 := by omega
      have z := sums fl rl 97 0 h1 rfl m1 mf fr
      rw [spt_0] at z
      refine r_iload_n 9 d_65_8 rfl rfl ?_
      refine r_bipush 11 (nI 12) d_65_9 rfl (by decide) ?_
      refine r_icmp_ge 47 14 d_65_11 (by decide) rfl (fun c_11 => ?_) (fun c_11 => absurd (nI_le (Nat.le_refl _) (by decide)) c_11)
      refine r_iconst 48 (nI 0) d_65_47 rfl (by decide) ?_
      refine r_istore_n 49 [rv 3 (some 0), iv (nI 0), iv (nI 0)] d_65_48 rfl rfl rfl ?_
      exact z
    | succ n ih =>
      intro r h1 hr m1 mf fr
      have hr12 : r < 12 := by omega
      have hk := b.kd hr12
      have sk : ∀ q, q ≠ r → (if q < r + 1 ∧ 1 ≤ kd S q ∧ kd S q ≤ 3 then some (spt sg (gL S fl q) (all S) 0) else lw S q) = (if q < r ∧ 1 ≤ kd S q ∧ kd S q ≤ 3 then some (spt sg (gL S fl q) (all S) 0) else lw S q) := by
        intro q hq
        by_cases e : q < r ∧ 1 ≤ kd S q ∧ kd S q ≤ 3
        · rw [if_pos e, if_pos ⟨by omega, e.2⟩]
        · rw [if_neg e, if_neg (fun y => e ⟨by omega, y.2⟩)]
      have skip : ¬ (1 ≤ kd S r ∧ kd S r ≤ 3) → RX h1 S (mjS S fl sg (r + 1) 0) sg := by
        intro hno
        refine rx_eq m1 rfl (fun q hq => ?_)
        by_cases e : q = r
        · subst e
          exact (if_neg (fun y => hno y.2)).trans (if_neg (fun y => hno y.2)).symm
        · exact sk q e
      refine r_iload_n 9 d_65_8 rfl rfl ?_
      refine r_bipush 11 (nI 12) d_65_9 rfl (by decide) ?_
      refine r_icmp_ge 47 14 d_65_11 (by decide) rfl (fun c_11 => absurd c_11 (nI_ge hr12 (by decide))) (fun c_11 => ?_)
      refine r_aload_n 15 d_65_14 rfl rfl ?_
      refine r_getR 18 3 8 6 (some 8) d_65_15 rfl fk_3_34 rfl (by decide) (MT.f8 m1.mt) ?_
      refine r_iload_n 19 d_65_18 rfl rfl ?_
      refine r_iald 20 r (nI (kd S r)) d_65_19 rfl rfl (MT.l6_8 m1.mt hr12) (m1.kd hr12) ?_
      refine r_iconst 21 (nI 1) d_65_20 rfl (by decide) ?_
      refine r_icmp_lt 41 24 d_65_21 (by decide) rfl (fun c_21 => ?_) (fun c_21 => ?_)
      · skip
        refine r_iinc 44 (nI (r + 1)) [rv 3 (some 0), iv (nI 0), iv (nI (r + 1))] d_65_41 rfl rfl (nI_1 r) rfl rfl ?_
        refine r_goto 8 d_65_44 (by decide) ?_
        first
        | (have hno : ¬ (1 ≤ kd S r ∧ kd S r ≤ 3) := (by have := (nI_ltI (by omega) (by decide)).mp c_21; omega); exact ih (r + 1) h1 (by omega) (skip hno) mf fr)
        | (have hno : ¬ (1 ≤ kd S r ∧ kd S r ≤ 3) := (by have := (nI_ltI (by decide) (by omega)).mp c_31; omega); exact ih (r + 1) h1 (by omega) (skip hno) mf fr)
        | (have h13 : 1 ≤ kd S r ∧ kd S r ≤ 3 := ⟨Nat.not_lt.mp (fun y => c_21 ((nI_ltI (by omega) (by decide)).mpr y)), Nat.not_lt.mp (fun y => c_31 ((nI_ltI (by decide) (by omega)).mpr y))⟩
           refine ih (r + 1) _ (by omega) (rx_lw (x := some 0) m1 rfl (fun q hq => ?_)) (MF_sI mf rfl) (fun o' ho' => (wS (by decide)).trans (fr o' ho'))
           by_cases e : q = r
           · subst e
             rw [if_pos rfl]
             exact (if_pos ⟨by omega, h13⟩).trans (by rw [spt_0])
           · rw [if_neg e]
             exact sk q e)
      · skip
        refine r_aload_n 25 d_65_24 rfl rfl ?_
        refine r_getR 28 3 8 6 (some 8) d_65_25 rfl fk_3_34 rfl (by decide) (MT.f8 m1.mt) ?_
        refine r_iload_n 29 d_65_28 rfl rfl ?_
        refine r_iald 30 r (nI (kd S r)) d_65_29 rfl rfl (MT.l6_8 m1.mt hr12) (m1.kd hr12) ?_
        refine r_iconst 31 (nI 3) d_65_30 rfl (by decide) ?_
        refine r_icmp_gt 41 34 d_65_31 (by decide) rfl (fun c_31 => ?_) (fun c_31 => ?_)
        · skip
          refine r_iinc 44 (nI (r + 1)) [rv 3 (some 0), iv (nI 0), iv (nI (r + 1))] d_65_41 rfl rfl (nI_1 r) rfl rfl ?_
          refine r_goto 8 d_65_44 (by decide) ?_
          first
          | (have hno : ¬ (1 ≤ kd S r ∧ kd S r ≤ 3) := (by have := (nI_ltI (by omega) (by decide)).mp c_21; omega); exact ih (r + 1) h1 (by omega) (skip hno) mf fr)
          | (have hno : ¬ (1 ≤ kd S r ∧ kd S r ≤ 3) := (by have := (nI_ltI (by decide) (by omega)).mp c_31; omega); exact ih (r + 1) h1 (by omega) (skip hno) mf fr)
          | (have h13 : 1 ≤ kd S r ∧ kd S r ≤ 3 := ⟨Nat.not_lt.mp (fun y => c_21 ((nI_ltI (by omega) (by decide)).mpr y)), Nat.not_lt.mp (fun y => c_31 ((nI_ltI (by decide) (by omega)).mpr y))⟩
             refine ih (r + 1) _ (by omega) (rx_lw (x := some 0) m1 rfl (fun q hq => ?_)) (MF_sI mf rfl) (fun o' ho' => (wS (by decide)).trans (fr o' ho'))
             by_cases e : q = r
             · subst e
               rw [if_pos rfl]
               exact (if_pos ⟨by omega, h13⟩).trans (by rw [spt_0])
             · rw [if_neg e]
               exact sk q e)
        · skip
          refine r_aload_n 35 d_65_34 rfl rfl ?_
          refine r_getR 38 3 10 6 (some 10) d_65_35 rfl fk_3_40 rfl (by decide) (MT.f10 m1.mt) ?_
          refine r_iload_n 39 d_65_38 rfl rfl ?_
          refine r_iconst 40 (nI 0) d_65_39 rfl (by decide) ?_
          refine r_iast 41 r d_65_40 rfl rfl (MT.l6_10 m1.mt hr12) ?_
          refine r_iinc 44 (nI (r + 1)) [rv 3 (some 0), iv (nI 0), iv (nI (r + 1))] d_65_41 rfl rfl (nI_1 r) rfl rfl ?_
          refine r_goto 8 d_65_44 (by decide) ?_
          first
          | (have hno : ¬ (1 ≤ kd S r ∧ kd S r ≤ 3) := (by have := (nI_ltI (by omega) (by decide)).mp c_21; omega); exact ih (r + 1) h1 (by omega) (skip hno) mf fr)
          | (have hno : ¬ (1 ≤ kd S r ∧ kd S r ≤ 3) := (by have := (nI_ltI (by decide) (by omega)).mp c_31; omega); exact ih (r + 1) h1 (by omega) (skip hno) mf fr)
          | (have h13 : 1 ≤ kd S r ∧ kd S r ≤ 3 := ⟨Nat.not_lt.mp (fun y => c_21 ((nI_ltI (by omega) (by decide)).mpr y)), Nat.not_lt.mp (fun y => c_31 ((nI_ltI (by decide) (by omega)).mpr y))⟩
             refine ih (r + 1) _ (by omega) (rx_lw (x := some 0) m1 rfl (fun q hq => ?_)) (MF_sI mf rfl) (fun o' ho' => (wS (by decide)).trans (fr o' ho'))
             by_cases e : q = r
             · subst e
               rw [if_pos rfl]
               exact (if_pos ⟨by omega, h13⟩).trans (by rw [spt_0])
             · rw [if_neg e]
               exact sk q e)
  refine r_aload_n 1 d_65_0 rfl rfl ?_
  refine r_callV (k1 := 0) (n1 := 0) (k := 0) (n := 0) 4 64 3 [] d_65_1 rfl mk_64 lk_3_81 mv_64 rfl rfl rfl rfl rfl _ (m_reach m v) ?_
  intro r_1 h_1 q_1
  obtain ⟨q1, q2, fl, q3, q4⟩ := q_1
  subst q1
  show TT 65 4 [rv 3 (some 0), un, un] [] h_1 _ _ _
  refine r_iconst 5 (nI 0) d_65_4 rfl (by decide) ?_
  refine r_istore_n 6 [rv 3 (some 0), iv (nI 0), un] d_65_5 rfl rfl rfl ?_
  refine r_iconst 7 (nI 0) d_65_6 rfl (by decide) ?_
  refine r_istore_n 8 [rv 3 (some 0), iv (nI 0), iv (nI 0)] d_65_7 rfl rfl rfl ?_
  refine zero fl q3 12 0 h_1 rfl (rx_eq (RX_XF m q2) rfl (fun q hq => ?_)) q2.1.1 q4
  show (if q < 0 ∧ 1 ≤ kd S q ∧ kd S q ≤ 3 then some (spt sg (gL S fl q) (all S) 0) else lw S q) = lw S q
  exact if_neg (fun y => Nat.not_lt_zero _ y.1)
/-- marking, on both sides -/
noncomputable def mk0 (S : SS) : SS := mkL S (fl0 S) 12
theorem mk_of {S : SS} {fl : List Nat} (rl : RL S fl) : mkL S fl 12 = mk0 S ∧ sw S fl = sw S (fl0 S) := by
  have r0 := fl0_ok rl
  refine ⟨?_, sum_same (wd S) _ _ rl.1 r0.1 (fun x => by rw [rl.2.2, r0.2.2])⟩
  unfold mk0 mkL
  rw [swr_eq (rin_eq rl r0)]
