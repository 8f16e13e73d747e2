/-! large objects own their regions -/
def own (S : SS) : Nat → Nat
  | 0 => 0
  | n + 1 => if kd S n = 4 then (itm S n).headD 0 else own S n
theorem own_4 {S : SS} (v : IV S) {r o : Nat} (hr : r < 12) (h4 : kd S r = 4) (ho : o ∈ itm S r) : own S (r + 1) = o ∧ itm S r = [o] := by
  obtain ⟨⟨o', e, -⟩, -, -⟩ := (v.1 r hr).2.2.1 h4
  rw [e] at ho
  have : o = o' := by simpa using ho
  subst this
  refine ⟨?_, e⟩
  rw [own, if_pos h4, e]
  rfl
theorem own_5 {S : SS} {r : Nat} (h5 : kd S r = 5) : own S (r + 1) = own S r := by
  rw [own, if_neg (by omega)]
theorem own_mem {S : SS} (v : IV S) : ∀ n, n < 12 → big (kd S n) = true → own S (n + 1) ∈ all S ∧ kd S (hm S (own S (n + 1))) = 4 ∧ hm S (own S (n + 1)) ≤ n ∧ ∀ y, hm S (own S (n + 1)) < y → y ≤ n → kd S y = 5 := by
  intro n
  induction n with
  | zero =>
    intro hn hb
    rcases big_iff.mp hb with h4 | h5
    · obtain ⟨⟨o, e, -⟩, -, -⟩ := (v.1 0 hn).2.2.1 h4
      have ho : o ∈ itm S 0 := by rw [e]; exact List.mem_cons_self
      have e2 := (own_4 v hn h4 ho).1
      have e3 := v.2.1.hm hn ho
      rw [e2, e3]
      exact ⟨mem_all.mpr ⟨0, hn, ho⟩, h4, Nat.le_refl _, fun y h1 h2 => by omega⟩
    · have := ((v.1 0 hn).2.2.2.1 h5).2.2.2.1
      omega
  | succ n ih =>
    intro hn hb
    rcases big_iff.mp hb with h4 | h5
    · obtain ⟨⟨o, e, -⟩, -, -⟩ := (v.1 (n + 1) hn).2.2.1 h4
      have ho : o ∈ itm S (n + 1) := by rw [e]; exact List.mem_cons_self
      have e2 := (own_4 v hn h4 ho).1
      have e3 := v.2.1.hm hn ho
      rw [e2, e3]
      exact ⟨mem_all.mpr ⟨n + 1, hn, ho⟩, h4, Nat.le_refl _, fun y h1 h2 => by omega⟩
    · have hp := ((v.1 (n + 1) hn).2.2.2.1 h5).2.2.2.2
      obtain ⟨a, b, c, d⟩ := ih (by omega) (big_iff.mpr hp)
      rw [own_5 h5]
      refine ⟨a, b, by omega, fun y h1 h2 => ?_⟩
      rcases Nat.lt_or_ge n y with q | q
      · rw [show y = n + 1 by omega]; exact h5
      · exact d y h1 q
theorem own_run {S : SS} (v : IV S) {r o : Nat} (hr : r < 12) (h4 : kd S r = 4) (ho : o ∈ itm S r) : ∀ n x, x = r + n → (∀ y, r < y → y ≤ x → kd S y = 5) → own S (x + 1) = o
  | 0, x, e, _ => by
    obtain rfl : x = r := by omega
    exact (own_4 v hr h4 ho).1
  | n + 1, x, e, h => by
    have h5 := h x (by omega) (Nat.le_refl _)
    rw [own_5 h5]
    have := own_run v hr h4 ho n (r + n) rfl (fun y h1 h2 => h y h1 (by omega))
    rw [show x = r + n + 1 by omega]
    exact this
theorem stay_own {S : SS} (v : IV S) (fl : List Nat) : ∀ n, n < 12 → big (kd S n) = true → stay S fl (n + 1) = rin fl (own S (n + 1)) := by
  intro n
  have h4c : ∀ n, n < 12 → kd S n = 4 → stay S fl (n + 1) = rin fl (own S (n + 1)) := by
    intro n hn h4
    obtain ⟨⟨o, e, hw⟩, -, -⟩ := (v.1 n hn).2.2.1 h4
    have ho : o ∈ itm S n := by rw [e]; exact List.mem_cons_self
    rw [(own_4 v hn h4 ho).1, stay, if_pos h4]
    unfold swr
    rw [e]
    cases h : rin fl o with
    | true => simp [List.filter, h, sw]; omega
    | false => simp [List.filter, h, sw]
  induction n with
  | zero =>
    intro hn hb
    rcases big_iff.mp hb with h4 | h5
    · exact h4c 0 hn h4
    · have := ((v.1 0 hn).2.2.2.1 h5).2.2.2.1
      omega
  | succ n ih =>
    intro hn hb
    rcases big_iff.mp hb with h4 | h5
    · exact h4c (n + 1) hn h4
    · have hp := ((v.1 (n + 1) hn).2.2.2.1 h5).2.2.2.2
      rw [own_5 h5, stay, if_neg (by omega)]
      exact ih (by omega) (big_iff.mpr hp)
/-! the reference: regions are released -/
def RS (T : SS) (p : Nat → Bool) : SS := mkS (fun r => if p r = true then 0 else kd T r) (fun r => if p r = true then 0 else us T r) (fun r => if p r = true then none else lw T r) (itm T) (ro T) (wd T) (fd T) (hm T) (so T) (cu T) (ct T)
theorem xg_rel {h h1 : AH} (x : XG h h1) (r : Nat) : XG h (relH h1 r) := XG_sI (XG_sI (XG_sI x rfl) rfl) rfl
theorem rx_rel {h : AH} {D T : SS} {G : List Nat} {p p' : Nat → Bool} {sg : Nat → Nat} (m : RXG h D (RS T p) G sg) {x : Nat} (hp : ∀ y, y < 12 → p' y = (p y || decide (y = x))) : RXG (relH h x) D (RS T p') G sg := by
  refine RX_reg m (xg_rel (XG.rf h) x) (fun r hr => ⟨?_, ?_, ?_⟩) m.cu (fun k hk => ?_) ⟨rfl, rfl, rfl⟩ ⟨rfl, rfl, rfl, rfl⟩
  · show hI (relH h x) 6 8 r = nI (if p' r = true then 0 else kd T r)
    unfold relH
    rw [w6n (by decide), w6n (by decide), wA, hp r hr]
    by_cases e : r = x
    · rw [if_pos e, decide_eq_true e, Bool.or_true, if_pos rfl]
    · rw [if_neg e, decide_eq_false e, Bool.or_false]; exact m.kd hr
  · show hI (relH h x) 6 9 r = nI (if p' r = true then 0 else us T r)
    unfold relH
    rw [w6n (by decide), wA, w6n (by decide), hp r hr]
    by_cases e : r = x
    · rw [if_pos e, decide_eq_true e, Bool.or_true, if_pos rfl]
    · rw [if_neg e, decide_eq_false e, Bool.or_false]; exact m.us hr
  · show hI (relH h x) 6 10 r = ol (if p' r = true then none else lw T r)
    unfold relH
    rw [wA, w6n (by decide), w6n (by decide), hp r hr]
    by_cases e : r = x
    · rw [if_pos e, decide_eq_true e, Bool.or_true, if_pos rfl]; rfl
    · rw [if_neg e, decide_eq_false e, Bool.or_false]; exact m.lw hr
  · unfold relH
    rw [w6n (by decide), w6n (by decide), w6n (by decide)]
    exact m.ct hk
/-- regions of large objects that were dropped; objects that are still there -/
def dead (S : SS) (fl : List Nat) (sg : Nat → Nat) (j r : Nat) : Bool := big (kd S r) && (!rin fl (own S (r + 1)) && decide (sg (own S (r + 1)) < j))
def kee (fl : List Nat) (sg : Nat → Nat) (j o : Nat) : Bool := rin fl o || decide (j ≤ sg o)
def DJ (S : SS) (fl : List Nat) (sg : Nat → Nat) (j : Nat) : SS := RS (flS S (kee fl sg j)) (dead S fl sg j)
theorem dj_mem {S : SS} {fl : List Nat} {sg : Nat → Nat} {j o : Nat} : o ∈ all (DJ S fl sg j) ↔ o ∈ all S ∧ kee fl sg j o = true := fl_mem
theorem kee_s {fl : List Nat} {sg : Nat → Nat} {j o : Nat} (h : sg o ≠ j) : kee fl sg (j + 1) o = kee fl sg j o := by
  unfold kee
  congr 1
  exact decide_eq_decide.mpr (by omega)
theorem dead_s {S : SS} {fl : List Nat} {sg : Nat → Nat} {j r : Nat} (h : big (kd S r) = true → rin fl (own S (r + 1)) = false → sg (own S (r + 1)) ≠ j) : dead S fl sg (j + 1) r = dead S fl sg j r := by
  unfold dead
  by_cases hb : big (kd S r) = true
  · rw [hb, Bool.true_and, Bool.true_and]
    cases hr : rin fl (own S (r + 1)) with
    | true => rfl
    | false =>
      have := h hb hr
      rw [show decide (sg (own S (r + 1)) < j + 1) = decide (sg (own S (r + 1)) < j) from decide_eq_decide.mpr (by omega)]
  · rw [Bool.eq_false_iff.mpr hb, Bool.false_and, Bool.false_and]
theorem DJ_skip {h : AH} {S : SS} {fl : List Nat} {sg : Nat → Nat} {j : Nat} (v : IV S) (m : RX h S (DJ S fl sg j) sg) (hs : ∀ y, y ∈ all S → sg y = j → rin fl y = true) : RX h S (DJ S fl sg (j + 1)) sg := by
  have hd : ∀ r, r < 12 → dead S fl sg (j + 1) r = dead S fl sg j r := fun r hr => dead_s (fun hb hf e => by
    have := hs _ (own_mem v r hr hb).1 e
    rw [hf] at this
    cases this)
  refine RX_mem m (fun o => ?_) (fun r hr => ?_) ⟨rfl, rfl, rfl⟩ ⟨rfl, rfl⟩
  · rw [dj_mem, dj_mem]
    constructor
    · rintro ⟨a, b⟩
      refine ⟨a, ?_⟩
      by_cases e : sg o = j
      · unfold kee; rw [hs o a e]; rfl
      · rw [← kee_s e]; exact b
    · rintro ⟨a, b⟩
      refine ⟨a, ?_⟩
      by_cases e : sg o = j
      · unfold kee; rw [hs o a e]; rfl
      · rw [kee_s e]; exact b
  · show (if dead S fl sg (j + 1) r = true then 0 else kd S r) = (if dead S fl sg j r = true then 0 else kd S r) ∧ (if dead S fl sg (j + 1) r = true then 0 else us S r) = (if dead S fl sg j r = true then 0 else us S r) ∧ (if dead S fl sg (j + 1) r = true then none else lw S r) = (if dead S fl sg j r = true then none else lw S r)
    rw [hd r hr]
    exact ⟨rfl, rfl, rfl⟩
/-! contracts of the reference: drop -/
theorem m_drop {h : AH} {S : SS} {fl : List Nat} {sg : Nat → Nat} (v : IV S) {o : Nat} (m : RX h S (DJ S fl sg (sg o)) sg) (ho : o ∈ all S) (hn : rin fl o = false) : TT 78 0 [rv 3 (some 0), iv (nI (sg o)), un, un] [] h 0 0 (fun x h' => x = none ∧ RX h' S (DJ S fl sg (sg o + 1)) sg ∧ MF h h' ∧ ∀ k, hI h' 7 2 k = hI h 7 2 k) := by
  have hoj : o ∈ all (DJ S fl sg (sg o)) := dj_mem.mpr ⟨ho, by unfold kee; rw [decide_eq_true (Nat.le_refl _), Bool.or_true]⟩
  have hso := m.lt ho
  have hr12 := hm_lt v.cl ho
  have hs16 := so_lt v ho
  have hps : 16 * hm S o + so S o < 192 := by omega
  have hhm : hI h 6 4 (sg o) = nI (hm S o) := m.hm hoj
  have hof : hI h 6 5 (sg o) = nI (so S o) := m.so hoj
  obtain ⟨i, hi, -, -⟩ := it_ix v ho
  have hit := List.mem_of_getElem? hi
  have hne : itm S (hm S o) ≠ [] := fun y => by rw [y] at hit; cases hit
  have hk5 := v.bd.kd hr12
  have hk0 : kd S (hm S o) ≠ 0 := fun y => hne ((v.1 _ hr12).1 y).1
  have hk5' : kd S (hm S o) ≠ 5 := fun y => hne ((v.1 _ hr12).2.2.2.1 y).1
  have hdead : ∀ x, own S (x + 1) = o → dead S fl sg (sg o) x = false := fun x e => by
    unfold dead
    rw [e, decide_eq_false (Nat.lt_irrefl _), Bool.and_false, Bool.and_false]
  have m1 : RX (sI (sI h 6 6 (16 * hm S o + so S o) (-1)) 6 4 (sg o) (-1)) S (RS (flS S (kee fl sg (sg o + 1))) (dead S fl sg (sg o))) sg := by
    refine RX_del m (XH_sI (XH_sI (XH.rf h) (by decide)) (by decide)) hoj (fun j => ?_) (fun j => ?_) (fun w => ?_) (fun y hy e => ?_) (fun y => ?_) (fun r hr => ⟨rfl, rfl, rfl⟩) ⟨rfl, rfl, rfl⟩ ⟨rfl, rfl⟩
    · rw [wA, w6n (by decide)]
    · rw [w6n (by decide), w6n (by decide)]
    · rw [w6n (by decide), wA]; rfl
    · exact ps_inj v (dj_mem.mp hy).1 ho e
    · show y ∈ all (flS S (kee fl sg (sg o + 1))) ↔ _
      rw [fl_mem, dj_mem]
      constructor
      · rintro ⟨a, b⟩
        have hyo : y ≠ o := fun z => by
          subst z
          unfold kee at b
          rw [hn, decide_eq_false (by omega)] at b
          cases b
        exact ⟨⟨a, by rw [← kee_s (fun z => hyo (m.inj a ho z))]; exact b⟩, hyo⟩
      · rintro ⟨⟨a, b⟩, c⟩
        exact ⟨a, by rw [kee_s (fun z => c (m.inj a ho z))]; exact b⟩
  have mf1 : MF h (sI (sI h 6 6 (16 * hm S o + so S o) (-1)) 6 4 (sg o) (-1)) := MF_sI (MF_sI (MF.rf h) rfl) rfl
  have fg1 : ∀ k, hI (sI (sI h 6 6 (16 * hm S o + so S o) (-1)) 6 4 (sg o) (-1)) 7 2 k = hI h 7 2 k := fun k => by rw [wS (by decide), wS (by decide)]
  generalize hh1 : sI (sI h 6 6 (16 * hm S o + so S o) (-1)) 6 4 (sg o) (-1) = h1 at m1 mf1 fg1
  have hkd : hI h1 6 8 (hm S o) = nI (kd S (hm S o)) := by
    have := m1.kd hr12
    rw [this]
    show nI (if dead S fl sg (sg o) (hm S o) = true then 0 else kd S (hm S o)) = _
    rw [if_neg]
    by_cases h4 : kd S (hm S o) = 4
    · rw [hdead _ (own_4 v hr12 h4 hit).1]; exact Bool.false_ne_true
    · unfold dead
      rw [show big (kd S (hm S o)) = false from decide_eq_false (by omega), Bool.false_and]
      exact Bool.false_ne_true
  have close : ∀ h2 (p : Nat → Bool), RX h2 S (RS (flS S (kee fl sg (sg o + 1))) p) sg → (∀ y, y < 12 → p y = dead S fl sg (sg o + 1) y) → RX h2 S (DJ S fl sg (sg o + 1)) sg := by
    intro h2 p m2 hp
    refine RX_mem m2 (fun _ => Iff.rfl) (fun r hr => ?_) ⟨rfl, rfl, rfl⟩ ⟨rfl, rfl⟩
    show (if dead S fl sg (sg o + 1) r = true then 0 else kd S r) = (if p r = true then 0 else kd S r) ∧ (if dead S fl sg (sg o + 1) r = true then 0 else us S r) = (if p r = true then 0 else us S r) ∧ (if dead S fl sg (sg o + 1) r = true then none else lw S r) = (if p r = true then none else lw S r)
    rw [hp r hr]
    exact ⟨rfl, rfl, rfl⟩
  have z31 : TT 78 31 [rv 3 (some 0), iv (nI (sg o)), iv (nI (hm S o)), un] [] h1 0 0 (fun x h' => x = none ∧ RX h' S (DJ S fl sg (sg o + 1)) sg ∧ MF h h' ∧ ∀ k, hI h' 7 2 k = hI h 7 2 k) := by
    by_cases h4 : kd S (hm S o) = 4
    · skip
      have fin : ∀ x h2, hm S o < x → (∀ y, hm S o < y → y < x → kd S y = 5) → RX h2 S (RS (flS S (kee fl sg (sg o + 1))) (fun y => dead S fl sg (sg o) y || (decide (hm S o ≤ y) && decide (y < x)))) sg → (x < 12 → kd S x ≠ 5) → RX h2 S (DJ S fl sg (sg o + 1)) sg := by
        intro x h2 hlt h55 m2 hstop
        refine close h2 _ m2 (fun y hy => ?_)
        by_cases hb : big (kd S y) = true
        · obtain ⟨a, b, c, d⟩ := own_mem v y hy hb
          by_cases e : own S (y + 1) = o
          · rw [e] at c d
            have hyx : y < x := by
              rcases Nat.lt_or_ge y x with q | q
              · exact q
              · exact absurd (d x hlt q) (hstop (by omega))
            simp only [decide_eq_true c, decide_eq_true hyx, Bool.and_self, Bool.or_true]
            unfold dead
            rw [hb, e, hn, decide_eq_true (Nat.lt_succ_self _)]
            rfl
          · have hsn : sg (own S (y + 1)) ≠ sg o := fun z => e (m.inj a ho z)
            rw [dead_s (fun _ _ => hsn)]
            have : (decide (hm S o ≤ y) && decide (y < x)) = false := by
              rw [Bool.and_eq_false_iff, decide_eq_false_iff_not, decide_eq_false_iff_not]
              by_cases q : hm S o ≤ y ∧ y < x
              · exfalso
                apply e
                refine own_run v hr12 h4 hit (y - hm S o) y (by omega) (fun z h1 h2 => h55 z h1 (by omega))
              · omega
            simp only [this, Bool.or_false]
        · have hb' := Bool.eq_false_iff.mpr hb
          have : (decide (hm S o ≤ y) && decide (y < x)) = false := by
            rw [Bool.and_eq_false_iff, decide_eq_false_iff_not, decide_eq_false_iff_not]
            by_cases q : hm S o ≤ y ∧ y < x
            · exfalso
              apply hb
              rcases Nat.lt_or_ge (hm S o) y with z | z
              · rw [h55 y z q.2]; rfl
              · rw [show y = hm S o by omega, h4]; rfl
            · omega
          simp only [this, Bool.or_false]
          unfold dead
          rw [hb', Bool.false_and, Bool.false_and]
      have loop : ∀ n x h2, x + n = 12 → hm S o < x → (∀ y, hm S o < y → y < x → kd S y = 5) → RX h2 S (RS (flS S (kee fl sg (sg o + 1))) (fun y => dead S fl sg (sg o) y || (decide (hm S o ≤ y) && decide (y < x)))) sg → MF h h2 → (∀ k, hI h2 7 2 k = hI h 7 2 k) → TT 78 50 [rv 3 (some 0), iv (nI (sg o)), iv (nI (hm S o)), iv (nI x)] [] h2 0 0 (fun x h' => x = none ∧ RX h' S (DJ S fl sg (sg o + 1)) sg ∧ MF h h' ∧ ∀ k, hI h' 7 2 k = hI h 7 2 k) := by
        intro n
        induction n with
        | zero =>
          intro x h2 hx hlt h55 m2 mf2 fg2
          obtain rfl : x = 12 := by omega
          refine r_iload_n 51 d_78_50 rfl rfl ?_
          refine r_bipush 53 (nI 12) d_78_51 rfl (by decide) ?_
          refine r_icmp_ge 77 56 d_78_53 (by decide) rfl (fun c_53 => ?_) (fun c_53 => absurd (nI_le (Nat.le_refl _) (by decide)) c_53)
          refine r_return d_78_77 rfl ?_
          exact ⟨rfl, fin 12 h2 hlt h55 m2 (fun z => absurd z (Nat.lt_irrefl _)), mf2, fg2⟩
        | succ n ih =>
          intro x h2 hx hlt h55 m2 mf2 fg2
          have hx12 : x < 12 := by omega
          by_cases h5 : kd S x = 5
          · have ow : own S (x + 1) = o := own_run v hr12 h4 hit (x - hm S o) x (by omega) (fun z h1 h2 => by
              rcases Nat.lt_or_ge z x with q | q
              · exact h55 z h1 q
              · rw [show z = x by omega]; exact h5)
            have hkx : hI h2 6 8 x = nI 5 := by
              rw [m2.kd hx12]
              show nI (if (dead S fl sg (sg o) x || (decide (hm S o ≤ x) && decide (x < x))) = true then 0 else kd S x) = _
              rw [hdead x ow, decide_eq_false (Nat.lt_irrefl x), Bool.and_false, Bool.or_false, if_neg Bool.false_ne_true, h5]
            refine r_iload_n 51 d_78_50 rfl rfl ?_
            refine r_bipush 53 (nI 12) d_78_51 rfl (by decide) ?_
            refine r_icmp_ge 77 56 d_78_53 (by decide) rfl (fun c_53 => absurd c_53 (nI_ge hx12 (by decide))) (fun c_53 => ?_)
            refine r_aload_n 57 d_78_56 rfl rfl ?_
            refine r_getR 60 3 8 6 (some 8) d_78_57 rfl fk_3_34 rfl (by decide) (MT.f8 m2.mt) ?_
            refine r_iload_n 61 d_78_60 rfl rfl ?_
            refine r_iald 62 x (nI 5) d_78_61 rfl rfl (MT.l6_8 m2.mt hx12) hkx ?_
            refine r_iconst 63 (nI 5) d_78_62 rfl (by decide) ?_
            refine r_icmp_ne 77 66 d_78_63 (by decide) rfl (fun c_63 => absurd c_63 (fun z => z rfl)) (fun c_63 => ?_)
            refine r_aload_n 67 d_78_66 rfl rfl ?_
            refine r_iload_n 68 d_78_67 rfl rfl ?_
            refine r_callV (k1 := 0) (n1 := 0) (k := 0) (n := 0) 71 66 3 [iv (nI x)] d_78_68 rfl mk_66 lk_3_116 mv_66 rfl rfl rfl rfl rfl _ (m_release m2.mt hx12) ?_
            intro r_68 h_68 q_68
            obtain ⟨q1, q2⟩ := q_68
            subst q2
            rw [q1]
            show TT 78 71 [rv 3 (some 0), iv (nI (sg o)), iv (nI (hm S o)), iv (nI x)] [] (relH h2 x) _ _ _
            refine r_iinc 74 (nI (x + 1)) [rv 3 (some 0), iv (nI (sg o)), iv (nI (hm S o)), iv (nI (x + 1))] d_78_71 rfl rfl (nI_1 x) rfl rfl ?_
            refine r_goto 50 d_78_74 (by decide) ?_
            have h55' : ∀ y, hm S o < y → y < x + 1 → kd S y = 5 := fun y h1 h2 => by
              rcases Nat.lt_or_ge y x with q | q
              · exact h55 y h1 q
              · rw [show y = x by omega]; exact h5
            have m3 := rx_rel m2 (x := x) (p' := fun y => dead S fl sg (sg o) y || (decide (hm S o ≤ y) && decide (y < x + 1))) (fun y hy => by
              by_cases e : y = x
              · subst e
                rw [decide_eq_true (Nat.le_of_lt hlt), decide_eq_true (Nat.lt_succ_self y), decide_eq_true rfl]
                simp
              · rw [decide_eq_false e, Bool.or_false, show decide (y < x + 1) = decide (y < x) from decide_eq_decide.mpr (by omega)])
            exact ih (x + 1) (relH h2 x) (by omega) (by omega) h55' m3 (mf2.tr (xg_rel (XG.rf h2) x).1) (fun k => by unfold relH; rw [wS (by decide), wS (by decide), wS (by decide)]; exact fg2 k)
          · skip
            have hk5x := v.bd.kd hx12
            have hkx : hI h2 6 8 x = nI (if (dead S fl sg (sg o) x || (decide (hm S o ≤ x) && decide (x < x))) = true then 0 else kd S x) := m2.kd hx12
            generalize hKx : (if (dead S fl sg (sg o) x || (decide (hm S o ≤ x) && decide (x < x))) = true then 0 else kd S x) = K at hkx
            have hK5 : K ≠ 5 ∧ K ≤ 5 := by
              rw [← hKx]
              split
              · omega
              · omega
            refine r_iload_n 51 d_78_50 rfl rfl ?_
            refine r_bipush 53 (nI 12) d_78_51 rfl (by decide) ?_
            refine r_icmp_ge 77 56 d_78_53 (by decide) rfl (fun c_53 => absurd c_53 (nI_ge hx12 (by decide))) (fun c_53 => ?_)
            refine r_aload_n 57 d_78_56 rfl rfl ?_
            refine r_getR 60 3 8 6 (some 8) d_78_57 rfl fk_3_34 rfl (by decide) (MT.f8 m2.mt) ?_
            refine r_iload_n 61 d_78_60 rfl rfl ?_
            refine r_iald 62 x (nI K) d_78_61 rfl rfl (MT.l6_8 m2.mt hx12) hkx ?_
            refine r_iconst 63 (nI 5) d_78_62 rfl (by decide) ?_
            refine r_icmp_ne 77 66 d_78_63 (by decide) rfl (fun c_63 => ?_) (fun c_63 => absurd ((nI_eq (by omega) (by decide)).mp c_63) hK5.1)
            refine r_return d_78_77 rfl ?_
            exact ⟨rfl, fin x h2 hlt h55 m2 (fun _ => h5), mf2, fg2⟩
      refine r_aload_n 32 d_78_31 rfl rfl ?_
      refine r_getR 35 3 8 6 (some 8) d_78_32 rfl fk_3_34 rfl (by decide) (MT.f8 m1.mt) ?_
      refine r_iload_n 36 d_78_35 rfl rfl ?_
      refine r_iald 37 (hm S o) (nI (kd S (hm S o))) d_78_36 rfl rfl (MT.l6_8 m1.mt hr12) hkd ?_
      refine r_iconst 38 (nI 4) d_78_37 rfl (by decide) ?_
      refine r_icmp_ne 77 41 d_78_38 (by decide) rfl (fun c_38 => absurd c_38 (fun z => z (by rw [h4]))) (fun c_38 => ?_)
      refine r_aload_n 42 d_78_41 rfl rfl ?_
      refine r_iload_n 43 d_78_42 rfl rfl ?_
      refine r_callV (k1 := 0) (n1 := 0) (k := 0) (n := 0) 46 66 3 [iv (nI (hm S o))] d_78_43 rfl mk_66 lk_3_116 mv_66 rfl rfl rfl rfl rfl _ (m_release m1.mt hr12) ?_
      intro r_43 h_43 q_43
      obtain ⟨q1, q2⟩ := q_43
      subst q2
      rw [q1]
      show TT 78 46 [rv 3 (some 0), iv (nI (sg o)), iv (nI (hm S o)), un] [] (relH h1 (hm S o)) _ _ _
      refine r_iload_n 47 d_78_46 rfl rfl ?_
      refine r_iconst 48 (nI 1) d_78_47 rfl (by decide) ?_
      refine r_iadd 49 (nI ((hm S o) + 1)) d_78_48 rfl (nI_add (hm S o) 1) ?_
      refine r_istore_n 50 [rv 3 (some 0), iv (nI (sg o)), iv (nI (hm S o)), iv (nI ((hm S o) + 1))] d_78_49 rfl rfl rfl ?_
      have m3 := rx_rel m1 (x := hm S o) (p' := fun y => dead S fl sg (sg o) y || (decide (hm S o ≤ y) && decide (y < hm S o + 1))) (fun y hy => by
        congr 1
        rw [← Bool.decide_and]
        exact decide_eq_decide.mpr (by omega))
      exact loop (11 - hm S o) (hm S o + 1) (relH h1 (hm S o)) (by omega) (by omega) (fun y h1 h2 => by omega) m3 (mf1.tr (xg_rel (XG.rf h1) _).1) (fun k => by unfold relH; rw [wS (by decide), wS (by decide), wS (by decide)]; exact fg1 k)
    · skip
      have e : RX h1 S (DJ S fl sg (sg o + 1)) sg := close h1 _ m1 (fun y hy => (dead_s (fun hb _ z => by
        obtain ⟨a, b, -, -⟩ := own_mem v y hy hb
        have := m.inj a ho z
        rw [this] at b
        exact h4 b)).symm)
      refine r_aload_n 32 d_78_31 rfl rfl ?_
      refine r_getR 35 3 8 6 (some 8) d_78_32 rfl fk_3_34 rfl (by decide) (MT.f8 m1.mt) ?_
      refine r_iload_n 36 d_78_35 rfl rfl ?_
      refine r_iald 37 (hm S o) (nI (kd S (hm S o))) d_78_36 rfl rfl (MT.l6_8 m1.mt hr12) hkd ?_
      refine r_iconst 38 (nI 4) d_78_37 rfl (by decide) ?_
      refine r_icmp_ne 77 41 d_78_38 (by decide) rfl (fun c_38 => ?_) (fun c_38 => absurd ((nI_eq (by omega) (by decide)).mp c_38) h4)
      refine r_return d_78_77 rfl ?_
      exact ⟨rfl, e, mf1, fg1⟩
  refine r_aload_n 1 d_78_0 rfl rfl ?_
  refine r_getR 4 3 4 6 (some 4) d_78_1 rfl fk_3_22 rfl (by decide) (MT.f4 m.mt) ?_
  refine r_iload_n 5 d_78_4 rfl rfl ?_
  refine r_iald 6 (sg o) (nI (hm S o)) d_78_5 rfl rfl (MT.l6_4 m.mt hso) hhm ?_
  refine r_istore_n 7 [rv 3 (some 0), iv (nI (sg o)), iv (nI (hm S o)), un] d_78_6 rfl rfl rfl ?_
  refine r_aload_n 8 d_78_7 rfl rfl ?_
  refine r_getR 11 3 6 6 (some 6) d_78_8 rfl fk_3_28 rfl (by decide) (MT.f6 m.mt) ?_
  refine r_bipush 13 (nI 16) d_78_11 rfl (by decide) ?_
  refine r_iload_n 14 d_78_13 rfl rfl ?_
  refine r_imul 15 (nI (16 * hm S o)) d_78_14 rfl (pk_mul _ _) ?_
  refine r_aload_n 16 d_78_15 rfl rfl ?_
  refine r_getR 19 3 5 6 (some 5) d_78_16 rfl fk_3_25 rfl (by decide) (MT.f5 m.mt) ?_
  refine r_iload_n 20 d_78_19 rfl rfl ?_
  refine r_iald 21 (sg o) (nI (so S o)) d_78_20 rfl rfl (MT.l6_5 m.mt hso) hof ?_
  refine r_iadd 22 (nI (16 * hm S o + so S o)) d_78_21 rfl (nI_add _ _) ?_
  refine r_iconst 23 (-1) d_78_22 rfl (by decide) ?_
  refine r_iast 24 (16 * hm S o + so S o) d_78_23 rfl rfl (MT.l6_6 m.mt hps) ?_
  refine r_aload_n 25 d_78_24 rfl rfl ?_
  refine r_getR 28 3 4 6 (some 4) d_78_25 rfl fk_3_22 rfl (by decide) (MT.f4 (MT_sI m.mt rfl)) ?_
  refine r_iload_n 29 d_78_28 rfl rfl ?_
  refine r_iconst 30 (-1) d_78_29 rfl (by decide) ?_
  refine r_iast 31 (sg o) d_78_30 rfl rfl (MT.l6_4 (MT_sI m.mt rfl) hso) ?_
  rw [hh1]
  exact z31
