/-! contracts of the class: looking for regions -/
def BD (S : SS) : Prop := (∀ r, r < 12 → kd S r ≤ 5 ∧ us S r ≤ 64 ∧ (itm S r).length ≤ 8 ∧ ∀ x, lw S r = some x → x ≤ 16) ∧ ∀ o, o < ct S 3 → wd S o ≤ 40 ∧ (fd S o).length ≤ 3
theorem BD.kd {S : SS} (b : BD S) {r : Nat} (hr : r < 12) : kd S r ≤ 5 := (b.1 r hr).1
theorem BD.us {S : SS} (b : BD S) {r : Nat} (hr : r < 12) : us S r ≤ 64 := (b.1 r hr).2.1
theorem BD.it {S : SS} (b : BD S) {r : Nat} (hr : r < 12) : (itm S r).length ≤ 8 := (b.1 r hr).2.2.1
theorem BD.lw {S : SS} (b : BD S) {r x : Nat} (hr : r < 12) (hx : lw S r = some x) : x ≤ 16 := (b.1 r hr).2.2.2 x hx
theorem BD.wd {S : SS} (b : BD S) {o : Nat} (ho : o < ct S 3) : wd S o ≤ 40 := (b.2 o ho).1
theorem BD.fd {S : SS} (b : BD S) {o : Nat} (ho : o < ct S 3) : (fd S o).length ≤ 3 := (b.2 o ho).2
def isk (S : SS) (k r : Nat) : Bool := decide (kd S r = k)
theorem isk_t {S : SS} {k r : Nat} (b : BD S) (hr : r < 12) (hk : k < 2 ^ 31) (h : nI (kd S r) = nI k) : isk S k r = true := decide_eq_true ((nI_eq (by have := b.kd hr; omega) hk).mp h)
theorem isk_f {S : SS} {k r : Nat} (h : ¬ nI (kd S r) = nI k) : isk S k r = false := decide_eq_false (fun q => h (by rw [q]))
/-- how many below n -/
def cn (p : Nat → Bool) : Nat → Nat
  | 0 => 0
  | n + 1 => cn p n + (if p n = true then 1 else 0)
theorem cn_t {p : Nat → Bool} {n : Nat} (h : p n = true) : cn p (n + 1) = cn p n + 1 := by simp [cn, h]
theorem cn_f {p : Nat → Bool} {n : Nat} (h : p n = false) : cn p (n + 1) = cn p n := by simp [cn, h]
theorem cn_le (p : Nat → Bool) : ∀ n, cn p n ≤ n
  | 0 => Nat.le_refl _
  | n + 1 => by
    have := cn_le p n
    unfold cn
    split <;> omega
theorem c_edenCount {h : AH} {S : SS} (c : RC h S) (b : BD S) : TT 15 0 [rv 0 (some 0), un, un] [] h 0 0 (fun x h' => h' = h ∧ x = some (iv (nI (cn (isk S 1) 12)))) := by
  have loop : ∀ n r, r + n = 12 → TT 15 4 [rv 0 (some 0), iv (nI (cn (isk S 1) r)), iv (nI r)] [] h 0 0 (fun x h' => h' = h ∧ x = some (iv (nI (cn (isk S 1) 12)))) := by
    intro n
    induction n with
    | zero =>
      intro r hr
      obtain rfl : r = 12 := by omega
      refine r_iload_n 5 d_15_4 rfl rfl ?_
      refine r_bipush 7 (nI 12) d_15_5 rfl (by decide) ?_
      refine r_icmp_ge 32 10 d_15_7 (by decide) rfl (fun c_7 => ?_) (fun c_7 => absurd (nI_le (Nat.le_refl _) (by decide)) c_7)
      refine r_iload_n 33 d_15_32 rfl rfl ?_
      refine r_ireturn d_15_33 rfl ?_
      exact ⟨rfl, rfl⟩
    | succ n ih =>
      intro r hr
      have hr12 : r < 12 := by omega
      have hk := b.kd hr12
      refine r_iload_n 5 d_15_4 rfl rfl ?_
      refine r_bipush 7 (nI 12) d_15_5 rfl (by decide) ?_
      refine r_icmp_ge 32 10 d_15_7 (by decide) rfl (fun c_7 => absurd c_7 (nI_ge hr12 (by decide))) (fun c_7 => ?_)
      refine r_aload_n 11 d_15_10 rfl rfl ?_
      refine r_getR 14 0 0 5 (some 0) d_15_11 rfl fk_0_11 rfl (by decide) (ST.reg c.st) ?_
      refine r_iload_n 15 d_15_14 rfl rfl ?_
      refine r_aald 16 5 2 r (some r) d_15_15 rfl (Or.inr ⟨rfl, rfl⟩) rfl (ST.l50 c.st hr12) (ST.rat c.st hr12) ?_
      refine r_getI 19 2 3 (nI (kd S r)) d_15_16 rfl fk_0_93 rfl (c.kd hr12) ?_
      refine r_iconst 20 (nI 1) d_15_19 rfl (by decide) ?_
      refine r_icmp_ne 26 23 d_15_20 (by decide) rfl (fun c_20 => ?_) (fun c_20 => ?_)
      · skip
        refine r_iinc 29 (nI (r + 1)) [rv 0 (some 0), iv (nI (cn (isk S 1) r)), iv (nI (r + 1))] d_15_26 rfl rfl (nI_1 r) rfl rfl ?_
        refine r_goto 4 d_15_29 (by decide) ?_
        have z := ih (r + 1) (by omega)
        first | (rw [cn_f (isk_f c_20)] at z; exact z) | (rw [cn_t (isk_t b hr12 (by decide) c_20)] at z; exact z)
      · skip
        refine r_iinc 26 (nI (cn (isk S 1) r + 1)) [rv 0 (some 0), iv (nI (cn (isk S 1) r + 1)), iv (nI r)] d_15_23 rfl rfl (nI_1 (cn (isk S 1) r)) rfl rfl ?_
        refine r_iinc 29 (nI (r + 1)) [rv 0 (some 0), iv (nI (cn (isk S 1) r + 1)), iv (nI (r + 1))] d_15_26 rfl rfl (nI_1 r) rfl rfl ?_
        refine r_goto 4 d_15_29 (by decide) ?_
        have z := ih (r + 1) (by omega)
        first | (rw [cn_f (isk_f c_20)] at z; exact z) | (rw [cn_t (isk_t b hr12 (by decide) c_20)] at z; exact z)
  refine r_iconst 1 (nI 0) d_15_0 rfl (by decide) ?_
  refine r_istore_n 2 [rv 0 (some 0), iv (nI 0), un] d_15_1 rfl rfl rfl ?_
  refine r_iconst 3 (nI 0) d_15_2 rfl (by decide) ?_
  refine r_istore_n 4 [rv 0 (some 0), iv (nI 0), iv (nI 0)] d_15_3 rfl rfl rfl ?_
  exact loop 12 0 rfl
/-- the first of nd free ones side by side -/
def lfr (f : Nat → Bool) (nd : Nat) : Nat → Nat → Nat → Option Nat
  | 0, _, _ => none
  | n + 1, r, run => if (if f r = true then run + 1 else 0) = nd then some (r + 1 - nd) else lfr f nd n (r + 1) (if f r = true then run + 1 else 0)
theorem c_leastFreeRun {h : AH} {S : SS} (c : RC h S) (b : BD S) (nd : Nat) (hn0 : 0 < nd) (hn : nd ≤ 12) : TT 17 0 [rv 0 (some 0), iv (nI nd), un, un] [] h 0 0 (fun x h' => h' = h ∧ x = some (iv (ol (lfr (isk S 0) nd 12 0 0)))) := by
  have loop : ∀ n r run, r + n = 12 → run ≤ r → TT 17 4 [rv 0 (some 0), iv (nI nd), iv (nI run), iv (nI r)] [] h 0 0 (fun x h' => h' = h ∧ x = some (iv (ol (lfr (isk S 0) nd n r run)))) := by
    intro n
    induction n with
    | zero =>
      intro r run hr hrun
      obtain rfl : r = 12 := by omega
      refine r_iload_n 5 d_17_4 rfl rfl ?_
      refine r_bipush 7 (nI 12) d_17_5 rfl (by decide) ?_
      refine r_icmp_ge 47 10 d_17_7 (by decide) rfl (fun c_7 => ?_) (fun c_7 => absurd (nI_le (Nat.le_refl _) (by decide)) c_7)
      refine r_iconst 48 (-1) d_17_47 rfl (by decide) ?_
      refine r_ireturn d_17_48 rfl ?_
      exact ⟨rfl, rfl⟩
    | succ n ih =>
      intro r run hr hrun
      have hr12 : r < 12 := by omega
      have hk := b.kd hr12
      have body : ∀ run', run' ≤ r + 1 → run' = (if isk S 0 r = true then run + 1 else 0) → TT 17 29 [rv 0 (some 0), iv (nI nd), iv (nI run), iv (nI r)] [iv (nI run')] h 0 0 (fun x h' => h' = h ∧ x = some (iv (ol (lfr (isk S 0) nd (n + 1) r run)))) := by
        intro run' hrun' he
        refine r_istore_n 30 [rv 0 (some 0), iv (nI nd), iv (nI run'), iv (nI r)] d_17_29 rfl rfl rfl ?_
        refine r_iload_n 31 d_17_30 rfl rfl ?_
        refine r_iload_n 32 d_17_31 rfl rfl ?_
        refine r_icmp_ne 41 35 d_17_32 (by decide) rfl (fun c_32 => ?_) (fun c_32 => ?_)
        · skip
          refine r_iinc 44 (nI (r + 1)) [rv 0 (some 0), iv (nI nd), iv (nI run'), iv (nI (r + 1))] d_17_41 rfl rfl (nI_1 r) rfl rfl ?_
          refine r_goto 4 d_17_44 (by decide) ?_
          have z := ih (r + 1) run' (by omega) hrun'
          rw [lfr, ← he, if_neg (fun q => c_32 (by rw [q]))]
          exact z
        · skip
          refine r_iload_n 36 d_17_35 rfl rfl ?_
          refine r_iload_n 37 d_17_36 rfl rfl ?_
          refine r_isub 38 (nI r - nI nd) d_17_37 rfl rfl ?_
          refine r_iconst 39 (nI 1) d_17_38 rfl (by decide) ?_
          refine r_iadd 40 (nI (r + 1 - nd)) d_17_39 rfl (by have e := (nI_eq (a := run') (b := nd) (by omega) (by omega)).mp c_32; rw [← pk_sub (a := r + 1) (b := nd) (by omega), ← nI_1 r, Int32.sub_eq_add_neg, Int32.sub_eq_add_neg, Int32.add_assoc, Int32.add_assoc, Int32.add_comm (-nI nd)]; rfl) ?_
          refine r_ireturn d_17_40 rfl ?_
          refine ⟨rfl, ?_⟩
          have e := (nI_eq (a := run') (b := nd) (by omega) (by omega)).mp c_32
          rw [lfr, ← he, if_pos e]
          rfl
      refine r_iload_n 5 d_17_4 rfl rfl ?_
      refine r_bipush 7 (nI 12) d_17_5 rfl (by decide) ?_
      refine r_icmp_ge 47 10 d_17_7 (by decide) rfl (fun c_7 => absurd c_7 (nI_ge hr12 (by decide))) (fun c_7 => ?_)
      refine r_aload_n 11 d_17_10 rfl rfl ?_
      refine r_getR 14 0 0 5 (some 0) d_17_11 rfl fk_0_11 rfl (by decide) (ST.reg c.st) ?_
      refine r_iload_n 15 d_17_14 rfl rfl ?_
      refine r_aald 16 5 2 r (some r) d_17_15 rfl (Or.inr ⟨rfl, rfl⟩) rfl (ST.l50 c.st hr12) (ST.rat c.st hr12) ?_
      refine r_getI 19 2 3 (nI (kd S r)) d_17_16 rfl fk_0_93 rfl (c.kd hr12) ?_
      refine r_if_ne 28 22 d_17_19 (by decide) rfl (fun c_19 => ?_) (fun c_19 => ?_)
      · skip
        refine r_iconst 29 (nI 0) d_17_28 rfl (by decide) ?_
        first | exact body 0 (Nat.zero_le _) (by rw [isk_f (k := 0) c_19]; rfl) | exact body (run + 1) (by omega) (by rw [isk_t (k := 0) b hr12 (by decide) c_19]; rfl)
      · skip
        refine r_iload_n 23 d_17_22 rfl rfl ?_
        refine r_iconst 24 (nI 1) d_17_23 rfl (by decide) ?_
        refine r_iadd 25 (nI (run + 1)) d_17_24 rfl (nI_add run 1) ?_
        refine r_goto 29 d_17_25 (by decide) ?_
        first | exact body 0 (Nat.zero_le _) (by rw [isk_f (k := 0) c_19]; rfl) | exact body (run + 1) (by omega) (by rw [isk_t (k := 0) b hr12 (by decide) c_19]; rfl)
  refine r_iconst 1 (nI 0) d_17_0 rfl (by decide) ?_
  refine r_istore_n 2 [rv 0 (some 0), iv (nI nd), iv (nI 0), un] d_17_1 rfl rfl rfl ?_
  refine r_iconst 3 (nI 0) d_17_2 rfl (by decide) ?_
  refine r_istore_n 4 [rv 0 (some 0), iv (nI nd), iv (nI 0), iv (nI 0)] d_17_3 rfl rfl rfl ?_
  exact loop 12 0 0 rfl (Nat.le_refl _)
