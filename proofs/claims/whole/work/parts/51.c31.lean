/-! the other calls keep the invariant -/
theorem sw_ni {S : SS} {w n : Nat} : ∀ (l : List Nat), (∀ x ∈ l, x < ct S 3) → sw (niS S w n) l = sw S l := by
  intro l hl
  unfold sw
  congr 1
  apply List.map_congr_left
  intro x hx
  exact va_up_ne _ _ (by have := hl x hx; omega)
theorem ni_IV {S : SS} (v : IV S) {w n : Nat} (hw : 2 ≤ w ∧ w ≤ 40) (hn : n ≤ 3) : IV (niS S w n) := by
  have lt : ∀ r, r < 12 → ∀ x ∈ itm S r, x < ct S 3 := fun r hr x hx => v.2.2.2.2.2.1 x (mem_all.mpr ⟨r, hr, hx⟩)
  have ew : ∀ r, r < 12 → ∀ x ∈ itm S r, wd (niS S w n) x = wd S x := fun r hr x hx => va_up_ne _ _ (by have := lt r hr x hx; omega)
  refine ⟨fun r hr => ?_, fun r k o hr ho => ?_, v.2.2.1, fun o o' ho hf => ?_, fun o ho => ?_, fun o ho => Nat.lt_succ_of_lt (v.2.2.2.2.2.1 o ho), v.2.2.2.2.2.2⟩
  · obtain ⟨h0, h1, h4, h5, hk⟩ := v.1 r hr
    refine ⟨h0, fun z1 z2 => ?_, fun z => ?_, h5, hk⟩
    · obtain ⟨a, b, c, d⟩ := h1 z1 z2
      refine ⟨?_, b, fun o ho => ?_, d⟩
      · show us S r = sw (niS S w n) (itm S r)
        rw [sw_ni _ (lt r hr)]; exact a
      · rw [ew r hr o ho]; exact c o ho
    · obtain ⟨⟨o, a, b⟩, c⟩ := h4 z
      refine ⟨⟨o, a, ?_⟩, c⟩
      rw [ew r hr o (by rw [a]; exact List.mem_cons_self)]; exact b
  · obtain ⟨a, b⟩ := v.2.1 r k o hr ho
    refine ⟨a, ?_⟩
    show so S o = sw (niS S w n) ((itm S r).take k)
    rw [sw_ni _ (fun x hx => lt r hr x (List.mem_of_mem_take hx))]
    exact b
  · have hlt := v.2.2.2.2.2.1 o ho
    have hf' : some o' ∈ va_up (fd S) (ct S 3) (List.replicate n none) o := hf
    rw [va_up_ne _ _ (by omega)] at hf'
    exact v.2.2.2.1 o o' ho hf'
  · have ho' : o < ct S 3 + 1 := ho
    show 2 ≤ va_up (wd S) (ct S 3) w o ∧ va_up (wd S) (ct S 3) w o ≤ 40 ∧ (va_up (fd S) (ct S 3) (List.replicate n none) o).length ≤ 3
    by_cases e : o = ct S 3
    · subst e
      rw [va_up_self, va_up_self, List.length_replicate]
      exact ⟨hw.1, hw.2, hn⟩
    · rw [va_up_ne _ _ e, va_up_ne _ _ e]
      exact v.2.2.2.2.1 o (by omega)
theorem ap_IV {T : SS} (v : IV T) {r o : Nat} (hr : r < 12) (hk : 1 ≤ kd T r ∧ kd T r ≤ 3) (ho : o < ct T 3) (hn : o ∉ all T) (hw : 2 ≤ wd T o ∧ wd T o ≤ 8) (hu : us T r + wd T o ≤ 16) (hf : ∀ x, some x ∉ fd T o) : IV (apS T r o) := by
  obtain ⟨u1, u2, u3, u4⟩ := (v.1 r hr).2.1 hk.1 hk.2
  have op := OP_ap (T := T) (r := r) ⟨u1, u2, u3⟩ hw hu
  refine ⟨fun r' hr' => ?_, PL_ap v.2.1 hr hn u1, fun i x hi hx => (all_ap_iff hr).mpr (Or.inr (v.2.2.1 i x hi hx)), fun x x' hx hf' => ?_, v.2.2.2.2.1, fun x hx => ?_, v.2.2.2.2.2.2⟩
  · by_cases e : r' = r
    · subst e
      refine ⟨fun z => ?_, fun _ _ => ⟨op.1, op.2.1, op.2.2, u4⟩, fun z => ?_, fun z => ?_, (v.1 r' hr').2.2.2.2⟩
      · have z' : kd T r' = 0 := z; omega
      · have z' : kd T r' = 4 := z; omega
      · have z' : kd T r' = 5 := z; omega
    · exact RI_of (v.1 r' hr') rfl (va_up_ne _ _ e) rfl (va_up_ne _ _ e) rfl (fun _ _ => rfl)
  · refine (all_ap_iff hr).mpr (Or.inr ?_)
    rcases (all_ap_iff hr).mp hx with q | q
    · subst q; exact absurd hf' (hf x')
    · exact v.2.2.2.1 x x' q hf'
  · rcases (all_ap_iff hr).mp hx with q | q
    · subst q; exact ho
    · exact v.2.2.2.2.2.1 x q
theorem lv_IV {T : SS} (v : IV T) (r : Nat) : IV (lvS T r none) := by
  refine ⟨fun r' hr' => ?_, v.2.1, v.2.2.1, v.2.2.2.1, v.2.2.2.2.1, v.2.2.2.2.2.1, v.2.2.2.2.2.2⟩
  by_cases e : r' = r
  · subst e
    have el : lw (lvS T r' none) r' = none := va_up_self _ _ _
    obtain ⟨h0, h1, h4, h5, hk⟩ := v.1 r' hr'
    exact ⟨fun z => ⟨(h0 z).1, (h0 z).2.1, el⟩, fun z1 z2 => ⟨(h1 z1 z2).1, (h1 z1 z2).2.1, (h1 z1 z2).2.2.1, fun x hx => by rw [el] at hx; cases hx⟩, fun z => ⟨(h4 z).1, el, (h4 z).2.2⟩, fun z => ⟨(h5 z).1, el, (h5 z).2.2⟩, hk⟩
  · exact RI_of (v.1 r' hr') rfl rfl (va_up_ne _ _ e) rfl rfl (fun _ _ => rfl)
theorem ro_IV {T : SS} (v : IV T) {i : Nat} {u : Option Nat} (hu : ∀ x, u = some x → x ∈ all T) : IV (roS T i u) := by
  refine ⟨fun r hr => RI_of (v.1 r hr) rfl rfl rfl rfl rfl (fun _ _ => rfl), v.2.1, fun j o hj ho => ?_, v.2.2.2.1, v.2.2.2.2.1, v.2.2.2.2.2.1, v.2.2.2.2.2.2⟩
  have ho' : va_up (ro T) i u j = some o := ho
  by_cases e : j = i
  · subst e
    rw [va_up_self] at ho'
    exact hu o ho'
  · rw [va_up_ne _ _ e] at ho'
    exact v.2.2.1 j o hj ho'
theorem mk1_IV {S : SS} (v : IV S) {w n i r : Nat} (hr : r < 12) (hk : 1 ≤ kd S r ∧ kd S r ≤ 3) (hw : 2 ≤ w ∧ w ≤ 8) (hn : n ≤ 3) (hu : us S r + w ≤ 16) : IV (mk1 S w n i r) := by
  have v1 := ni_IV v (w := w) (n := n) ⟨hw.1, by omega⟩ hn
  have ew : wd (niS S w n) (ct S 3) = w := va_up_self _ _ _
  have v2 := ap_IV v1 (o := ct S 3) hr hk (Nat.lt_succ_self _) (fun z => absurd (v.2.2.2.2.2.1 _ z) (Nat.lt_irrefl _)) (by rw [ew]; exact hw) (by rw [ew]; exact hu) (fun x hx => by
    have hx' : some x ∈ va_up (fd S) (ct S 3) (List.replicate n none) (ct S 3) := hx
    rw [va_up_self] at hx'
    cases List.eq_of_mem_replicate hx')
  refine ro_IV (lv_IV v2 r) (fun x hx => ?_)
  cases hx
  exact (all_ap_iff hr).mpr (Or.inl rfl)
theorem lg_kd {S : SS} {f w : Nat} : ∀ j r, kd (lgS S f w j) r = if f ≤ r ∧ r < f + j then (if r = f then 4 else 5) else kd S r
  | 0, r => by rw [if_neg (by omega)]; rfl
  | j + 1, r => by
    show va_up (kd (lgS S f w j)) (f + j) (if j = 0 then 4 else 5) r = _
    by_cases e : r = f + j
    · subst e
      have hc : f ≤ f + j ∧ f + j < f + (j + 1) := ⟨by omega, by omega⟩
      rw [va_up_self, if_pos hc]
      by_cases e0 : j = 0
      · rw [if_pos e0, if_pos (by omega)]
      · rw [if_neg e0, if_neg (by omega)]
    · rw [va_up_ne _ _ e, lg_kd j r]
      by_cases e2 : f ≤ r ∧ r < f + j
      · have hc : f ≤ r ∧ r < f + (j + 1) := ⟨by omega, by omega⟩
        rw [if_pos e2, if_pos hc]
      · rw [if_neg e2, if_neg (fun z => e2 ⟨by omega, by omega⟩)]
theorem lg_us {S : SS} {f w : Nat} : ∀ j r, us (lgS S f w j) r = if f ≤ r ∧ r < f + j then m16 (w - 16 * (r - f)) else us S r
  | 0, r => by rw [if_neg (by omega)]; rfl
  | j + 1, r => by
    show va_up (us (lgS S f w j)) (f + j) (m16 (w - 16 * j)) r = _
    by_cases e : r = f + j
    · subst e
      have hc : f ≤ f + j ∧ f + j < f + (j + 1) := ⟨by omega, by omega⟩
      rw [va_up_self, if_pos hc, Nat.add_sub_cancel_left]
    · rw [va_up_ne _ _ e, lg_us j r]
      by_cases e2 : f ≤ r ∧ r < f + j
      · have hc : f ≤ r ∧ r < f + (j + 1) := ⟨by omega, by omega⟩
        rw [if_pos e2, if_pos hc]
      · rw [if_neg e2, if_neg (fun z => e2 ⟨by omega, by omega⟩)]
theorem lg_same {S : SS} {f w : Nat} : ∀ j, lw (lgS S f w j) = lw S ∧ itm (lgS S f w j) = itm S ∧ ro (lgS S f w j) = ro S ∧ wd (lgS S f w j) = wd S ∧ fd (lgS S f w j) = fd S ∧ hm (lgS S f w j) = hm S ∧ so (lgS S f w j) = so S ∧ cu (lgS S f w j) = cu S ∧ ct (lgS S f w j) = ct S
  | 0 => ⟨rfl, rfl, rfl, rfl, rfl, rfl, rfl, rfl, rfl⟩
  | j + 1 => lg_same j
theorem m16_le (x : Nat) : m16 x ≤ 16 := by unfold m16; split <;> omega
theorem mk2_IV {S : SS} (v : IV S) {w n i f nd : Nat} (hf : f + nd ≤ 12) (hnd : 0 < nd) (hz : ∀ q, f ≤ q → q < f + nd → kd S q = 0) (hw : 9 ≤ w ∧ w ≤ 40) (hn : n ≤ 3) : IV (mk2 S w n i f nd) := by
  have v1 := ni_IV v (w := w) (n := n) ⟨by omega, hw.2⟩ hn
  have hf12 : f < 12 := by omega
  have ew : wd (niS S w n) (ct S 3) = w := va_up_self _ _ _
  have hno : ct S 3 ∉ all (niS S w n) := fun z => absurd (v.2.2.2.2.2.1 _ z) (Nat.lt_irrefl _)
  obtain ⟨g1, g2, g3, g4, g5, g6, g7, g8, g9⟩ := lg_same (S := apS (niS S w n) f (ct S 3)) (f := f) (w := w) nd
  have fr : ∀ q, f ≤ q → q < f + nd → itm S q = [] ∧ us S q = 0 ∧ lw S q = none := fun q q1 q2 => (v.1 q (by omega)).1 (hz q q1 q2)
  have hp : PL (apS (niS S w n) f (ct S 3)) := PL_ap v1.2.1 hf12 hno (by
    show us S f = sw _ (itm S f)
    rw [(fr f (Nat.le_refl _) (by omega)).1, (fr f (Nat.le_refl _) (by omega)).2.1]; rfl)
  have mem : ∀ x, x ∈ all (lgS (apS (niS S w n) f (ct S 3)) f w nd) ↔ x = ct S 3 ∨ x ∈ all S := fun x => by
    rw [all_eq g2]
    exact all_ap_iff (S := niS S w n) hf12
  have ei : ∀ q, q ≠ f → itm (lgS (apS (niS S w n) f (ct S 3)) f w nd) q = itm S q := fun q hq => by
    rw [g2]; exact va_up_ne _ _ hq
  have eif : itm (lgS (apS (niS S w n) f (ct S 3)) f w nd) f = [ct S 3] := by
    rw [g2]
    show va_up (itm S) f (itm S f ++ [ct S 3]) f = _
    rw [va_up_self, (fr f (Nat.le_refl _) (by omega)).1]
    rfl
  have vl : IV (lgS (apS (niS S w n) f (ct S 3)) f w nd) := by
    refine ⟨fun r hr => ?_, ?_, fun j o hj ho => ?_, fun o o' ho hf' => ?_, ?_, fun o ho => ?_, fun r hr => ?_⟩
    · have ek := lg_kd (S := apS (niS S w n) f (ct S 3)) (f := f) (w := w) nd r
      have eu := lg_us (S := apS (niS S w n) f (ct S 3)) (f := f) (w := w) nd r
      have el : lw (lgS (apS (niS S w n) f (ct S 3)) f w nd) r = lw S r := by rw [g1]; rfl
      by_cases hin : f ≤ r ∧ r < f + nd
      · rw [if_pos hin] at ek eu
        obtain ⟨z1, z2, z3⟩ := fr r hin.1 hin.2
        have hu16 := m16_le (w - 16 * (r - f))
        by_cases e : r = f
        · subst e
          rw [if_pos rfl] at ek
          refine ⟨fun z => by omega, fun _ z => by omega, fun _ => ⟨⟨ct S 3, eif, ?_⟩, by rw [el]; exact z3, by rw [eu]; exact hu16⟩, fun z => by omega, by omega⟩
          rw [g4]
          show 9 ≤ wd (niS S w n) (ct S 3)
          rw [ew]; exact hw.1
        · rw [if_neg e] at ek
          refine ⟨fun z => by omega, fun _ z => by omega, fun z => by omega, fun _ => ⟨by rw [ei r e]; exact z1, by rw [el]; exact z3, by rw [eu]; exact hu16, by omega, ?_⟩, by omega⟩
          rw [lg_kd nd (r - 1), if_pos ⟨by omega, by omega⟩]
          by_cases e2 : r - 1 = f
          · rw [if_pos e2]; exact Or.inl rfl
          · rw [if_neg e2]; exact Or.inr rfl
      · rw [if_neg hin] at ek eu
        have hne : r ≠ f := fun z => hin ⟨by omega, by omega⟩
        have eu2 : us (lgS (apS (niS S w n) f (ct S 3)) f w nd) r = us (niS S w n) r := eu.trans (va_up_ne _ _ hne)
        refine RI_of (v1.1 r hr) ek eu2 el (ei r hne) g4 (fun _ z => ?_)
        rw [lg_kd nd (r - 1), if_neg]
        · rfl
        · intro q
          have := hz (r - 1) q.1 q.2
          have z' : kd S (r - 1) = 4 ∨ kd S (r - 1) = 5 := z
          omega
    · intro r k o hr ho
      have esw : ∀ l, sw (lgS (apS (niS S w n) f (ct S 3)) f w nd) l = sw (apS (niS S w n) f (ct S 3)) l := fun l => by unfold sw; rw [g4]
      rw [g2] at ho ⊢
      rw [esw, g6, g7]
      exact hp r k o hr ho
    · rw [g3] at ho
      exact (mem o).mpr (Or.inr (v.2.2.1 j o hj ho))
    · rw [g5] at hf'
      refine (mem o').mpr (Or.inr ?_)
      have hf2 : some o' ∈ va_up (fd S) (ct S 3) (List.replicate n none) o := hf'
      rcases (mem o).mp ho with q | q
      · subst q
        rw [va_up_self] at hf2
        cases List.eq_of_mem_replicate hf2
      · have := v.2.2.2.2.2.1 o q
        rw [va_up_ne _ _ (by omega)] at hf2
        exact v.2.2.2.1 o o' q hf2
    · rw [g9, g4, g5]
      exact v1.2.2.2.2.1
    · rw [g9]
      rcases (mem o).mp ho with q | q
      · subst q; exact Nat.lt_succ_self _
      · exact Nat.lt_succ_of_lt (v.2.2.2.2.2.1 o q)
    · rw [g8] at hr
      obtain ⟨a, b⟩ := v.2.2.2.2.2.2 r hr
      refine ⟨a, ?_⟩
      rw [lg_kd nd r, if_neg]
      · exact b
      · intro q
        have := hz r q.1 q.2
        omega
  refine ro_IV vl (fun x hx => ?_)
  cases hx
  exact (mem _).mpr (Or.inl rfl)
theorem fd_IV {S : SS} (v : IV S) {o f : Nat} {u : Option Nat} (hu : ∀ x, u = some x → x ∈ all S) : IV (fdS S o f u) := by
  refine ⟨fun r hr => RI_of (v.1 r hr) rfl rfl rfl rfl rfl (fun _ _ => rfl), v.2.1, v.2.2.1, fun x x' hx hf => ?_, fun x hx => ?_, v.2.2.2.2.2.1, v.2.2.2.2.2.2⟩
  · have hf' : some x' ∈ va_up (fd S) o ((fd S o).set f u) x := hf
    by_cases e : x = o
    · subst e
      rw [va_up_self] at hf'
      rcases List.mem_or_eq_of_mem_set hf' with q | q
      · exact v.2.2.2.1 x x' hx q
      · exact hu x' q.symm
    · rw [va_up_ne _ _ e] at hf'
      exact v.2.2.2.1 x x' hx hf'
  · obtain ⟨a, b, d⟩ := v.2.2.2.2.1 x hx
    refine ⟨a, b, ?_⟩
    show (va_up (fd S) o ((fd S o).set f u) x).length ≤ 3
    by_cases e : x = o
    · subst e
      rw [va_up_self, List.length_set]; exact d
    · rw [va_up_ne _ _ e]; exact d
theorem mkL_IV {S : SS} (v : IV S) (fl : List Nat) : IV (mkL S fl 12) := by
  refine ⟨fun r hr => ?_, v.2.1, v.2.2.1, v.2.2.2.1, v.2.2.2.2.1, v.2.2.2.2.2.1, v.2.2.2.2.2.2⟩
  obtain ⟨h0, h1, h4, h5, hk⟩ := v.1 r hr
  have el : lw (mkL S fl 12) r = if r < 12 ∧ 1 ≤ kd S r ∧ kd S r ≤ 3 then some (swr S fl r) else lw S r := rfl
  by_cases e : 1 ≤ kd S r ∧ kd S r ≤ 3
  · rw [if_pos ⟨hr, e⟩] at el
    refine ⟨fun z => ?_, fun z1 z2 => ⟨(h1 e.1 e.2).1, (h1 e.1 e.2).2.1, (h1 e.1 e.2).2.2.1, fun x hx => ?_⟩, fun z => ?_, fun z => ?_, hk⟩
    · have z' : kd S r = 0 := z; omega
    · rw [el] at hx
      cases hx
      have := sw_filter S (rin fl) (itm S r)
      obtain ⟨a, b, -⟩ := h1 e.1 e.2
      unfold swr
      omega
    · have z' : kd S r = 4 := z; omega
    · have z' : kd S r = 5 := z; omega
  · rw [if_neg (fun z => e z.2)] at el
    exact RI_of (v.1 r hr) rfl rfl el rfl rfl (fun _ _ => rfl)
