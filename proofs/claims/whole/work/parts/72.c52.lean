/-! reachable lists exist: what collections leave keeps the invariant -/
theorem RL_ex {S : SS} (v : IV S) : ∃ fl, RL S fl := by
  have hin : ∀ o, Rch S o → o ∈ all S := fun o ho => ho (fun o => o ∈ all S) (fun i o hi hr => v.cl.1 i o hi hr) (fun o o' h1 h2 => v.cl.2.1 o o' h1 h2)
  refine ⟨(all S).filter (fun o => @decide (Rch S o) (Classical.propDecidable _)), v.cl.2.2.1.filter _, fun o ho => (List.mem_filter.mp ho).1, fun o => ?_⟩
  rw [List.mem_filter]
  exact ⟨fun z => @of_decide_eq_true _ (Classical.propDecidable _) z.2, fun z => ⟨hin o z, @decide_eq_true _ (Classical.propDecidable _) z⟩⟩
theorem rl0 {S : SS} (v : IV S) : RL S (fl0 S) := by
  obtain ⟨fl, h⟩ := RL_ex v
  exact fl0_ok h
theorem ful_IV0 {S : SS} (v : IV S) : IV (ful S) := ful_IV v (rl0 v)
theorem coll_IV {S : SS} (v : IV S) (bu : Nat) : IV (coll S bu) := by
  unfold coll
  split
  · next hp => exact cp_IV v (fun r _ h => colF_kd h) (v.sm bu) hp
  · exact ful_IV0 v
/-- where a small object comes to lie is fit for it -/
theorem pls_ok {S : SS} (v : IV S) {w : Nat} (hw : w ≤ 8) : IV (plS S w).2 ∧ ∀ r, (plS S w).1 = some r → r < 12 ∧ (1 ≤ kd (plS S w).2 r ∧ kd (plS S w).2 r ≤ 3) ∧ us (plS S w).2 r + w ≤ 16 := by
  have ed : ∀ {T : SS}, IV T → (edP T w).1 ≠ none → IV (edP T w).2 ∧ ∀ r, (edP T w).1 = some r → r < 12 ∧ (1 ≤ kd (edP T w).2 r ∧ kd (edP T w).2 r ≤ 3) ∧ us (edP T w).2 r + w ≤ 16 := by
    intro T vT hn
    obtain ⟨r0, h0⟩ := Option.ne_none_iff_exists'.mp hn
    refine ⟨(edP_some vT hw h0).2.1, fun r hr => ?_⟩
    obtain ⟨a, -, c, d, -, -⟩ := edP_some vT hw hr
    exact ⟨a, ⟨by omega, by omega⟩, d⟩
  have v1 := coll_IV v 0
  have v2 := ful_IV0 v1
  unfold plS
  split
  · next h => exact ed v h
  · split
    · next h => exact ed v1 h
    · split
      · next h => exact ed v2 h
      · refine ⟨v2, fun r hr => ?_⟩
        have hr : fst (oldR (ful (coll S 0)) w) 12 0 = some r := hr
        have h1 := fst_lt 12 0 r hr
        have h2 := fst_ok 12 0 r hr
        unfold oldR at h2
        rw [Bool.and_eq_true] at h2
        have h3 : kd (ful (coll S 0)) r = 3 := of_decide_eq_true h2.1
        exact ⟨by omega, ⟨by show 1 ≤ kd (ful (coll S 0)) r; omega, by show kd (ful (coll S 0)) r ≤ 3; omega⟩, of_decide_eq_true h2.2⟩
theorem us_len {T : SS} (v : IV T) {r w : Nat} (hr : r < 12) (hk : 1 ≤ kd T r ∧ kd T r ≤ 3) (hu : us T r + w ≤ 16) (hw : 2 ≤ w) : (itm T r).length < 8 := by
  obtain ⟨u1, -, u3, -⟩ := (v.1 r hr).2.1 hk.1 hk.2
  have := sw_two (S := T) (itm T r) (fun o ho => (u3 o ho).1)
  omega
/-! contracts of the reference: collect, full -/
theorem nI_nn {n : Nat} (h : n < 2 ^ 31) : (0 : Int32) ≤ nI n := by
  show nI 0 ≤ nI n
  exact nI_le (Nat.zero_le n) h
theorem n0_ge {a : Int32} (h : a < 0) : ¬ (0 : Int32) ≤ a := by
  rw [Int32.lt_iff_toInt_lt] at h
  rw [Int32.le_iff_toInt_le]
  omega
theorem m_full {h : AH} {S : SS} {sg : Nat → Nat} (m : RM h S sg) (v : IV S) : TT 80 0 [rv 3 (some 0)] [] h 0 0 (fun x h' => x = some (iv (nI (fl0 S).length)) ∧ RM h' (ful S) sg ∧ MF h h') := by
  refine r_aload_n 1 d_80_0 rfl rfl ?_
  refine r_callV (k1 := 0) (n1 := 0) (k := 0) (n := 0) 4 76 3 [] d_80_1 rfl mk_76 lk_3_112 mv_76 rfl rfl rfl rfl rfl _ (m_fullC m v) ?_
  intro r_1 h_1 q_1
  obtain ⟨fl, rl, q1x, q2x, q3x⟩ := q_1
  subst q1x
  show TT 80 4 [rv 3 (some 0)] [iv (nI fl.length)] h_1 _ _ _
  refine r_ireturn d_80_4 rfl ?_
  exact ⟨by rw [(ful_of rl).2], by rw [← (ful_of rl).1]; exact q2x, q3x⟩
theorem m_collect {h : AH} {S : SS} {sg : Nat → Nat} (m : RM h S sg) (v : IV S) {bu : Nat} (hbu : bu < 2 ^ 31) : TT 79 0 [rv 3 (some 0), iv (nI bu)] [] h 0 0 (fun x h' => x = some (iv (collA S bu)) ∧ RM h' (coll S bu) sg ∧ MF h h') := by
  refine r_iload_n 1 d_79_0 rfl rfl ?_
  refine r_if_ge 8 4 d_79_1 (by decide) rfl (fun c_1 => ?_) (fun c_1 => absurd (nI_nn hbu) c_1)
  refine r_aload_n 9 d_79_8 rfl rfl ?_
  refine r_iload_n 10 d_79_9 rfl rfl ?_
  refine r_callV (k1 := 0) (n1 := 0) (k := 0) (n := 0) 13 75 3 [iv (nI bu)] d_79_10 rfl mk_75 lk_3_129 mv_75 rfl rfl rfl rfl rfl _ (m_collection m v hbu) ?_
  intro r_10 h_10 q_10
  obtain ⟨q1x, q2x, q3x⟩ := q_10
  subst q1x
  show TT 79 13 [rv 3 (some 0), iv (nI bu)] [iv (collA S bu)] h_10 _ _ _
  refine r_ireturn d_79_13 rfl ?_
  exact ⟨rfl, q2x, q3x⟩
theorem m_collect_neg {h : AH} {a : Int32} (ha : a < 0) : TT 79 0 [rv 3 (some 0), iv a] [] h 0 0 (fun x h' => x = some (iv (-1)) ∧ h' = h) := by
  refine r_iload_n 1 d_79_0 rfl rfl ?_
  refine r_if_ge 8 4 d_79_1 (by decide) rfl (fun c_1 => absurd c_1 (n0_ge ha)) (fun c_1 => ?_)
  refine r_iconst 5 (-1) d_79_4 rfl (by decide) ?_
  refine r_goto 13 d_79_5 (by decide) ?_
  refine r_ireturn d_79_13 rfl ?_
  exact ⟨rfl, rfl⟩
/-! a root changes -/
theorem rx_ro {h : AH} {S : SS} {sg : Nat → Nat} (m : RM h S sg) (i : Nat) (x : Option Nat) : RM (sI h 6 7 i (ol (x.map sg))) (roS S i x) sg := by
  refine ⟨m.mt, fun r hr => ⟨(w6n (by decide)).trans (m.kd hr), (w6n (by decide)).trans (m.us hr), (w6n (by decide)).trans (m.lw hr)⟩, fun o ho => ⟨m.lt ho, (w6n (by decide)).trans (m.no ho), (w6n (by decide)).trans (m.wd ho), (w6n (by decide)).trans (m.fl ho), fun f u hf => (w6n (by decide)).trans (m.fd ho hf)⟩, fun o ho => ⟨ho, (w6n (by decide)).trans (m.hm ho), (w6n (by decide)).trans (m.so ho), (w6n (by decide)).trans (m.at ho)⟩, m.2.2.2.2.1, fun j hj hn _ => (w6n (by decide)).trans (m.fr hj hn), fun w hw hn => (w6n (by decide)).trans (m.an hw hn), fun k hk => ?_, (wS (by decide)).trans m.cu, fun k hk => (w6n (by decide)).trans (m.ct hk)⟩
  rw [wA]
  show _ = ol ((va_up (ro S) i x k).map sg)
  by_cases e : k = i
  · rw [if_pos e, e, va_up_self]
  · rw [if_neg e, va_up_ne _ _ e]; exact m.ro hk
/-! a new object gets a slot -/
theorem rx_ni {h h4 : AH} {S : SS} {sg : Nat → Nat} {j w n r : Nat} (m : RM h S sg) (v : IV S) (hj : j < 97) (hfree : ∀ o, o ∈ all S → sg o ≠ j) (hn : n ≤ 3) (hr : r < 12) (mt : MT h4) (g : ∀ a k, 3 < a → a ≠ 11 → hI h4 6 a k = hI h 6 a k) (e0 : ∀ k, hI h4 6 0 k = if k = j then nI (ct S 3 + 1) else hI h 6 0 k) (e1 : ∀ k, hI h4 6 1 k = if k = j then nI w else hI h 6 1 k) (e2 : ∀ k, hI h4 6 2 k = if k = j then nI n else hI h 6 2 k) (e3 : ∀ k, hI h4 6 3 k = if 3 * j ≤ k ∧ k < 3 * j + 3 then -1 else hI h 6 3 k) (e11 : ∀ k, hI h4 6 11 k = if k = 3 then nI (ct S 3 + 1) else hI h 6 11 k) (ec : hI h4 3 0 11 = hI h 3 0 11) : RX h4 (ptS (niS S w n) r (ct S 3)) (niS S w n) (va_up sg (ct S 3) j) := by
  have hne : ∀ x, x ∈ all S → x ≠ ct S 3 := fun x hx => Nat.ne_of_lt (v.2.2.2.2.2.1 x hx)
  have es : ∀ x, x ∈ all S → va_up sg (ct S 3) j x = sg x := fun x hx => va_up_ne _ _ (hne x hx)
  have em : ∀ x : Option Nat, (∀ y, x = some y → y ∈ all S) → x.map (va_up sg (ct S 3) j) = x.map sg := by
    intro x hx
    cases x with
    | none => rfl
    | some y =>
      show some _ = some _
      rw [es y (hx y rfl)]
  have hal : ∀ y, y ∈ all (ptS (niS S w n) r (ct S 3)) ↔ y = ct S 3 ∨ y ∈ all S := fun y => all_ap_iff (S := niS S w n) hr
  refine ⟨mt, fun r' hr' => ⟨(g 8 _ (by decide) (by decide)).trans (m.kd hr'), (g 9 _ (by decide) (by decide)).trans (m.us hr'), (g 10 _ (by decide) (by decide)).trans (m.lw hr')⟩, fun x hx => ?_, fun x hx => ?_, fun x y hx hy => ?_, fun j' hj' hno _ => ?_, fun p hp hno => ?_, fun i hi => ?_, ?_, fun k hk => ?_⟩
  · show va_up sg (ct S 3) j x < 97 ∧ hI h4 6 0 (va_up sg (ct S 3) j x) = nI (x + 1) ∧ hI h4 6 1 (va_up sg (ct S 3) j x) = nI (va_up (wd S) (ct S 3) w x) ∧ hI h4 6 2 (va_up sg (ct S 3) j x) = nI (va_up (fd S) (ct S 3) (List.replicate n none) x).length ∧ ∀ f u, (va_up (fd S) (ct S 3) (List.replicate n none) x)[f]? = some u → hI h4 6 3 (3 * va_up sg (ct S 3) j x + f) = ol (u.map (va_up sg (ct S 3) j))
    rcases (hal x).mp hx with e | hxa
    · subst e
      rw [va_up_self, va_up_self, va_up_self, List.length_replicate, e0, e1, e2, if_pos rfl, if_pos rfl, if_pos rfl]
      refine ⟨hj, rfl, rfl, rfl, fun f u hf => ?_⟩
      have h1 := (List.getElem?_eq_some_iff.mp hf).1
      rw [List.length_replicate] at h1
      rw [List.eq_of_mem_replicate (List.mem_of_getElem? hf), e3, if_pos ⟨by omega, by omega⟩]
      rfl
    · have hx2 := hfree x hxa
      rw [es x hxa, va_up_ne _ _ (hne x hxa), va_up_ne _ _ (hne x hxa), e0, e1, e2, if_neg hx2, if_neg hx2, if_neg hx2]
      refine ⟨m.lt hxa, m.no hxa, m.wd hxa, m.fl hxa, fun f u hf => ?_⟩
      have h1 := (List.getElem?_eq_some_iff.mp hf).1
      have h3 := (v.2.2.2.2.1 x (v.2.2.2.2.2.1 x hxa)).2.2
      rw [em u (fun y hy => v.2.2.2.1 x y hxa (by rw [← hy]; exact List.mem_of_getElem? hf)), e3, if_neg (by omega)]
      exact m.fd hxa hf
  · have hx : x ∈ all S := hx
    rw [es x hx]
    exact ⟨(hal x).mpr (Or.inr hx), (g 4 _ (by decide) (by decide)).trans (m.hm hx), (g 5 _ (by decide) (by decide)).trans (m.so hx), (g 6 _ (by decide) (by decide)).trans (m.at hx)⟩
  · intro e
    rcases (hal x).mp hx with ex | hxa
    · rcases (hal y).mp hy with ey | hya
      · rw [ex, ey]
      · rw [ex, va_up_self, es y hya] at e
        exact absurd e.symm (hfree y hya)
    · rcases (hal y).mp hy with ey | hya
      · rw [ey, va_up_self, es x hxa] at e
        exact absurd e (hfree x hxa)
      · rw [es x hxa, es y hya] at e
        exact m.inj hxa hya e
  · rw [g 4 _ (by decide) (by decide)]
    exact m.fr hj' (fun x hx => by rw [← es x hx]; exact hno x hx)
  · rw [g 6 _ (by decide) (by decide)]
    exact m.an hp (fun x hx => hno x hx)
  · rw [g 7 _ (by decide) (by decide), m.ro hi]
    show _ = ol ((ro S i).map (va_up sg (ct S 3) j))
    rw [em _ (fun y hy => v.2.2.1 i y hi hy)]
  · rw [ec]; exact m.cu
  · rw [e11, m.ct hk]
    show _ = nI (va_up (ct S) 3 (ct S 3 + 1) k)
    by_cases e : k = 3
    · rw [if_pos e, e, va_up_self]
    · rw [if_neg e, va_up_ne _ _ e]
def noH (h : AH) (j c w n : Nat) : AH := sI (sI (sI (sI (sI (sI (sI h 6 11 3 (nI (c + 1))) 6 0 j (nI (c + 1))) 6 1 j (nI w)) 6 2 j (nI n)) 6 3 (3 * j) (-1)) 6 3 (3 * j + 1) (-1)) 6 3 (3 * j + 2) (-1)
theorem m_newObject {h : AH} {S : SS} {sg : Nat → Nat} (m : RM h S sg) (v : IV S) {w n r : Nat} (hn : n ≤ 3) (hr : r < 12) (hu : us S r < 16) (hfp : ∀ y, y ∈ all S → ps S y ≠ 16 * r + us S r) : TT 81 0 [rv 3 (some 0), iv (nI w), iv (nI n), iv (nI r), iv (nI (us S r)), un, un] [] h 0 0 (fun x h' => ∃ j, j < 97 ∧ x = some (iv (nI j)) ∧ RM h' (ptS (niS S w n) r (ct S 3)) (va_up sg (ct S 3) j) ∧ MF h h') := by
  have b := v.bd
  have fin : ∀ j, j < 97 → (∀ o, o ∈ all S → sg o ≠ j) → TT 81 19 [rv 3 (some 0), iv (nI w), iv (nI n), iv (nI r), iv (nI (us S r)), iv (nI j), un] [] h 0 0 (fun x h' => ∃ j, j < 97 ∧ x = some (iv (nI j)) ∧ RM h' (ptS (niS S w n) r (ct S 3)) (va_up sg (ct S 3) j) ∧ MF h h') := by
    intro j hj hfree
    have m4 : RX (noH h j (ct S 3) w n) (ptS (niS S w n) r (ct S 3)) (niS S w n) (va_up sg (ct S 3) j) := by
      refine rx_ni m v hj hfree hn hr m.mt (fun a k h1 h2 => ?_) (fun k => ?_) (fun k => ?_) (fun k => ?_) (fun k => ?_) (fun k => ?_) ?_
      · unfold noH
        rw [w6n (by omega), w6n (by omega), w6n (by omega), w6n (by omega), w6n (by omega), w6n (by omega), w6n (by omega)]
      · unfold noH
        rw [w6n (by decide), w6n (by decide), w6n (by decide), w6n (by decide), w6n (by decide), wA, w6n (by decide)]
      · unfold noH
        rw [w6n (by decide), w6n (by decide), w6n (by decide), w6n (by decide), wA, w6n (by decide), w6n (by decide)]
      · unfold noH
        rw [w6n (by decide), w6n (by decide), w6n (by decide), wA, w6n (by decide), w6n (by decide), w6n (by decide)]
      · unfold noH
        rw [wA, wA, wA, w6n (by decide), w6n (by decide), w6n (by decide), w6n (by decide)]
        by_cases e : 3 * j ≤ k ∧ k < 3 * j + 3
        · rw [if_pos e]
          by_cases a1 : k = 3 * j + 2
          · rw [if_pos a1]
          · rw [if_neg a1]
            by_cases a2 : k = 3 * j + 1
            · rw [if_pos a2]
            · rw [if_neg a2, if_pos (by omega)]
        · rw [if_neg e, if_neg (by omega), if_neg (by omega), if_neg (by omega)]
      · unfold noH
        rw [w6n (by decide), w6n (by decide), w6n (by decide), w6n (by decide), w6n (by decide), w6n (by decide), wA]
      · unfold noH
        rw [wS (by decide), wS (by decide), wS (by decide), wS (by decide), wS (by decide), wS (by decide), wS (by decide)]
    have hos : va_up sg (ct S 3) j (ct S 3) = j := va_up_self _ _ _
    have mp := RX_put (G' := []) m4 (o := ct S 3) (r := r) ((all_ap_iff (S := niS S w n) hr).mpr (Or.inl rfl)) (fun z => Nat.lt_irrefl _ (v.2.2.2.2.2.1 _ z)) hr hfp (fun y hy => by cases hy)
    rw [hos] at mp
    have mf4 : MF h (putH (noH h j (ct S 3) w n) j r (us S r)) := MF_sI (MF_sI (MF_sI (MF_sI (MF_sI (MF_sI (MF_sI (MF_sI (MF_sI (MF_sI (MF.rf h) rfl) rfl) rfl) rfl) rfl) rfl) rfl) rfl) rfl) rfl
    have t3 : TT 81 64 [rv 3 (some 0), iv (nI w), iv (nI n), iv (nI r), iv (nI (us S r)), iv (nI j), iv (nI (3 * j + 3))] [] (noH h j (ct S 3) w n) 0 0 (fun x h' => ∃ j, j < 97 ∧ x = some (iv (nI j)) ∧ RM h' (ptS (niS S w n) r (ct S 3)) (va_up sg (ct S 3) j) ∧ MF h h') := by
      generalize hh4 : noH h j (ct S 3) w n = h4 at m4 mp mf4
      refine r_iload 66 d_81_64 rfl rfl ?_
      refine r_iconst 67 (nI 3) d_81_66 rfl (by decide) ?_
      refine r_iload 69 d_81_67 rfl rfl ?_
      refine r_imul 70 (nI (3 * j)) d_81_69 rfl (pk_mul _ _) ?_
      refine r_iconst 71 (nI 3) d_81_70 rfl (by decide) ?_
      refine r_iadd 72 (nI (3 * j + 3)) d_81_71 rfl (nI_add _ _) ?_
      refine r_icmp_ge 89 75 d_81_72 (by decide) rfl (fun c_72 => ?_) (fun c_72 => absurd (nI_le (Nat.le_refl _) (by omega)) c_72)
      refine r_aload_n 90 d_81_89 rfl rfl ?_
      refine r_iload 92 d_81_90 rfl rfl ?_
      refine r_iload_n 93 d_81_92 rfl rfl ?_
      refine r_iload 95 d_81_93 rfl rfl ?_
      refine r_callV (k1 := 0) (n1 := 0) (k := 0) (n := 0) 98 67 3 [iv (nI j), iv (nI r), iv (nI (us S r))] d_81_95 rfl mk_67 lk_3_119 mv_67 rfl rfl rfl rfl rfl _ (m_put m4.mt hj hr hu) ?_
      intro r_95 h_95 q_95
      obtain ⟨q1x, q2x⟩ := q_95
      subst q2x
      rw [q1x]
      show TT 81 98 [rv 3 (some 0), iv (nI w), iv (nI n), iv (nI r), iv (nI (us S r)), iv (nI j), iv (nI (3 * j + 3))] [] (putH h4 j r (us S r)) _ _ _
      refine r_iload 100 d_81_98 rfl rfl ?_
      refine r_ireturn d_81_100 rfl ?_
      exact ⟨j, hj, rfl, mp, mf4⟩
    have t2 : TT 81 64 [rv 3 (some 0), iv (nI w), iv (nI n), iv (nI r), iv (nI (us S r)), iv (nI j), iv (nI (3 * j + 2))] [] (sI (sI (sI (sI (sI (sI h 6 11 3 (nI (ct S 3 + 1))) 6 0 j (nI (ct S 3 + 1))) 6 1 j (nI w)) 6 2 j (nI n)) 6 3 (3 * j) (-1)) 6 3 (3 * j + 1) (-1)) 0 0 (fun x h' => ∃ j, j < 97 ∧ x = some (iv (nI j)) ∧ RM h' (ptS (niS S w n) r (ct S 3)) (va_up sg (ct S 3) j) ∧ MF h h') := by
      unfold noH at t3
      generalize hh4 : sI (sI (sI (sI (sI (sI h 6 11 3 (nI (ct S 3 + 1))) 6 0 j (nI (ct S 3 + 1))) 6 1 j (nI w)) 6 2 j (nI n)) 6 3 (3 * j) (-1)) 6 3 (3 * j + 1) (-1) = h4 at t3
      have mt4 : MT h4 := by rw [← hh4]; exact m.mt
      refine r_iload 66 d_81_64 rfl rfl ?_
      refine r_iconst 67 (nI 3) d_81_66 rfl (by decide) ?_
      refine r_iload 69 d_81_67 rfl rfl ?_
      refine r_imul 70 (nI (3 * j)) d_81_69 rfl (pk_mul _ _) ?_
      refine r_iconst 71 (nI 3) d_81_70 rfl (by decide) ?_
      refine r_iadd 72 (nI (3 * j + 3)) d_81_71 rfl (nI_add _ _) ?_
      refine r_icmp_ge 89 75 d_81_72 (by decide) rfl (fun c_72 => absurd c_72 (nI_ge (by omega) (by omega))) (fun c_72 => ?_)
      refine r_aload_n 76 d_81_75 rfl rfl ?_
      refine r_getR 79 3 3 6 (some 3) d_81_76 rfl fk_3_19 rfl (by decide) (MT.f3 mt4) ?_
      refine r_iload 81 d_81_79 rfl rfl ?_
      refine r_iconst 82 (-1) d_81_81 rfl (by decide) ?_
      refine r_iast 83 (3 * j + 2) d_81_82 rfl rfl (MT.l6_3 mt4 (by omega)) ?_
      refine r_iinc 86 (nI (3 * j + 3)) [rv 3 (some 0), iv (nI w), iv (nI n), iv (nI r), iv (nI (us S r)), iv (nI j), iv (nI (3 * j + 3))] d_81_83 rfl rfl (nI_add _ _) rfl rfl ?_
      refine r_goto 64 d_81_86 (by decide) ?_
      exact t3
    have t1 : TT 81 64 [rv 3 (some 0), iv (nI w), iv (nI n), iv (nI r), iv (nI (us S r)), iv (nI j), iv (nI (3 * j + 1))] [] (sI (sI (sI (sI (sI h 6 11 3 (nI (ct S 3 + 1))) 6 0 j (nI (ct S 3 + 1))) 6 1 j (nI w)) 6 2 j (nI n)) 6 3 (3 * j) (-1)) 0 0 (fun x h' => ∃ j, j < 97 ∧ x = some (iv (nI j)) ∧ RM h' (ptS (niS S w n) r (ct S 3)) (va_up sg (ct S 3) j) ∧ MF h h') := by
      generalize hh4 : sI (sI (sI (sI (sI h 6 11 3 (nI (ct S 3 + 1))) 6 0 j (nI (ct S 3 + 1))) 6 1 j (nI w)) 6 2 j (nI n)) 6 3 (3 * j) (-1) = h4 at t2
      have mt4 : MT h4 := by rw [← hh4]; exact m.mt
      refine r_iload 66 d_81_64 rfl rfl ?_
      refine r_iconst 67 (nI 3) d_81_66 rfl (by decide) ?_
      refine r_iload 69 d_81_67 rfl rfl ?_
      refine r_imul 70 (nI (3 * j)) d_81_69 rfl (pk_mul _ _) ?_
      refine r_iconst 71 (nI 3) d_81_70 rfl (by decide) ?_
      refine r_iadd 72 (nI (3 * j + 3)) d_81_71 rfl (nI_add _ _) ?_
      refine r_icmp_ge 89 75 d_81_72 (by decide) rfl (fun c_72 => absurd c_72 (nI_ge (by omega) (by omega))) (fun c_72 => ?_)
      refine r_aload_n 76 d_81_75 rfl rfl ?_
      refine r_getR 79 3 3 6 (some 3) d_81_76 rfl fk_3_19 rfl (by decide) (MT.f3 mt4) ?_
      refine r_iload 81 d_81_79 rfl rfl ?_
      refine r_iconst 82 (-1) d_81_81 rfl (by decide) ?_
      refine r_iast 83 (3 * j + 1) d_81_82 rfl rfl (MT.l6_3 mt4 (by omega)) ?_
      refine r_iinc 86 (nI (3 * j + 2)) [rv 3 (some 0), iv (nI w), iv (nI n), iv (nI r), iv (nI (us S r)), iv (nI j), iv (nI (3 * j + 2))] d_81_83 rfl rfl (nI_add _ _) rfl rfl ?_
      refine r_goto 64 d_81_86 (by decide) ?_
      exact t2
    have t0 : TT 81 64 [rv 3 (some 0), iv (nI w), iv (nI n), iv (nI r), iv (nI (us S r)), iv (nI j), iv (nI (3 * j))] [] (sI (sI (sI (sI h 6 11 3 (nI (ct S 3 + 1))) 6 0 j (nI (ct S 3 + 1))) 6 1 j (nI w)) 6 2 j (nI n)) 0 0 (fun x h' => ∃ j, j < 97 ∧ x = some (iv (nI j)) ∧ RM h' (ptS (niS S w n) r (ct S 3)) (va_up sg (ct S 3) j) ∧ MF h h') := by
      generalize hh4 : sI (sI (sI (sI h 6 11 3 (nI (ct S 3 + 1))) 6 0 j (nI (ct S 3 + 1))) 6 1 j (nI w)) 6 2 j (nI n) = h4 at t1
      have mt4 : MT h4 := by rw [← hh4]; exact m.mt
      refine r_iload 66 d_81_64 rfl rfl ?_
      refine r_iconst 67 (nI 3) d_81_66 rfl (by decide) ?_
      refine r_iload 69 d_81_67 rfl rfl ?_
      refine r_imul 70 (nI (3 * j)) d_81_69 rfl (pk_mul _ _) ?_
      refine r_iconst 71 (nI 3) d_81_70 rfl (by decide) ?_
      refine r_iadd 72 (nI (3 * j + 3)) d_81_71 rfl (nI_add _ _) ?_
      refine r_icmp_ge 89 75 d_81_72 (by decide) rfl (fun c_72 => absurd c_72 (nI_ge (by omega) (by omega))) (fun c_72 => ?_)
      refine r_aload_n 76 d_81_75 rfl rfl ?_
      refine r_getR 79 3 3 6 (some 3) d_81_76 rfl fk_3_19 rfl (by decide) (MT.f3 mt4) ?_
      refine r_iload 81 d_81_79 rfl rfl ?_
      refine r_iconst 82 (-1) d_81_81 rfl (by decide) ?_
      refine r_iast 83 (3 * j) d_81_82 rfl rfl (MT.l6_3 mt4 (by omega)) ?_
      refine r_iinc 86 (nI (3 * j + 1)) [rv 3 (some 0), iv (nI w), iv (nI n), iv (nI r), iv (nI (us S r)), iv (nI j), iv (nI (3 * j + 1))] d_81_83 rfl rfl (nI_add _ _) rfl rfl ?_
      refine r_goto 64 d_81_86 (by decide) ?_
      exact t1
    have hc3 : hI h 6 11 3 = nI (ct S 3) := m.ct (by decide)
    refine r_aload_n 20 d_81_19 rfl rfl ?_
    refine r_getR 23 3 12 6 (some 11) d_81_20 rfl fk_3_47 rfl (by decide) (MT.f12 m.mt) ?_
    refine r_iconst 24 (nI 3) d_81_23 rfl (by decide) ?_
    refine r_dup2 25 d_81_24 rfl rfl rfl ?_
    refine r_iald 26 3 (nI (ct S 3)) d_81_25 rfl rfl (MT.l6_11 m.mt (by decide)) hc3 ?_
    refine r_iconst 27 (nI 1) d_81_26 rfl (by decide) ?_
    refine r_iadd 28 (nI (ct S 3 + 1)) d_81_27 rfl (nI_add _ _) ?_
    refine r_iast 29 3 d_81_28 rfl rfl (MT.l6_11 m.mt (by decide)) ?_
    refine r_aload_n 30 d_81_29 rfl rfl ?_
    refine r_getR 33 3 0 6 (some 0) d_81_30 rfl fk_3_7 rfl (by decide) (MT.f0 (MT_sI m.mt rfl)) ?_
    refine r_iload 35 d_81_33 rfl rfl ?_
    refine r_aload_n 36 d_81_35 rfl rfl ?_
    refine r_getR 39 3 12 6 (some 11) d_81_36 rfl fk_3_47 rfl (by decide) (MT.f12 (MT_sI m.mt rfl)) ?_
    refine r_iconst 40 (nI 3) d_81_39 rfl (by decide) ?_
    refine r_iald 41 3 (nI (ct S 3 + 1)) d_81_40 rfl rfl (MT.l6_11 (MT_sI m.mt rfl) (by decide)) (by rw [wA, if_pos rfl]) ?_
    refine r_iast 42 j d_81_41 rfl rfl (MT.l6_0 (MT_sI m.mt rfl) hj) ?_
    refine r_aload_n 43 d_81_42 rfl rfl ?_
    refine r_getR 46 3 1 6 (some 1) d_81_43 rfl fk_3_13 rfl (by decide) (MT.f1 (MT_sI (MT_sI m.mt rfl) rfl)) ?_
    refine r_iload 48 d_81_46 rfl rfl ?_
    refine r_iload_n 49 d_81_48 rfl rfl ?_
    refine r_iast 50 j d_81_49 rfl rfl (MT.l6_1 (MT_sI (MT_sI m.mt rfl) rfl) hj) ?_
    refine r_aload_n 51 d_81_50 rfl rfl ?_
    refine r_getR 54 3 2 6 (some 2) d_81_51 rfl fk_3_16 rfl (by decide) (MT.f2 (MT_sI (MT_sI (MT_sI m.mt rfl) rfl) rfl)) ?_
    refine r_iload 56 d_81_54 rfl rfl ?_
    refine r_iload_n 57 d_81_56 rfl rfl ?_
    refine r_iast 58 j d_81_57 rfl rfl (MT.l6_2 (MT_sI (MT_sI (MT_sI m.mt rfl) rfl) rfl) hj) ?_
    refine r_iconst 59 (nI 3) d_81_58 rfl (by decide) ?_
    refine r_iload 61 d_81_59 rfl rfl ?_
    refine r_imul 62 (nI (3 * j)) d_81_61 rfl (pk_mul _ _) ?_
    refine r_istore 64 [rv 3 (some 0), iv (nI w), iv (nI n), iv (nI r), iv (nI (us S r)), iv (nI j), iv (nI (3 * j))] d_81_62 rfl rfl rfl ?_
    exact t0
  have look : ∀ k j u, j + k = 97 → (∀ i, i < j → ∃ o, o ∈ all S ∧ sg o = i) → TT 81 3 [rv 3 (some 0), iv (nI w), iv (nI n), iv (nI r), iv (nI (us S r)), iv (nI j), u] [] h 0 0 (fun x h' => ∃ j, j < 97 ∧ x = some (iv (nI j)) ∧ RM h' (ptS (niS S w n) r (ct S 3)) (va_up sg (ct S 3) j) ∧ MF h h') := by
    intro k
    induction k with
    | zero =>
      intro j u hj hall
      exfalso
      have h1 := nodup_len (List.range 97) ((all S).map sg) List.nodup_range (fun x hx => by
        obtain ⟨o, ho, e⟩ := hall x (by have := List.mem_range.mp hx; omega)
        exact List.mem_map.mpr ⟨o, ho, e⟩)
      rw [List.length_range, List.length_map] at h1
      have := all_len b
      omega
    | succ k ih =>
      intro j u hj hall
      have hj97 : j < 97 := by omega
      refine TT.forget 6 (ls' := [rv 3 (some 0), iv (nI w), iv (nI n), iv (nI r), iv (nI (us S r)), iv (nI j), un]) rfl ?_
      by_cases hex : ∃ o, o ∈ all S ∧ sg o = j
      · have z := ih (j + 1) un (by omega) (fun i hi => by
          by_cases e : i = j
          · rw [e]; exact hex
          · exact hall i (by omega))
        obtain ⟨o, hoa, hso⟩ := hex
        have hr12 := hm_lt v.cl hoa
        have hv : hI h 6 4 j = nI (hm S o) := by rw [← hso]; exact m.hm hoa
        refine r_aload_n 4 d_81_3 rfl rfl ?_
        refine r_getR 7 3 4 6 (some 4) d_81_4 rfl fk_3_22 rfl (by decide) (MT.f4 m.mt) ?_
        refine r_iload 9 d_81_7 rfl rfl ?_
        refine r_iald 10 j (nI (hm S o)) d_81_9 rfl rfl (MT.l6_4 m.mt hj97) hv ?_
        refine r_if_lt 19 13 d_81_10 (by decide) rfl (fun c_10 => absurd c_10 (nI_pos (by omega))) (fun c_10 => ?_)
        refine r_iinc 16 (nI (j + 1)) [rv 3 (some 0), iv (nI w), iv (nI n), iv (nI r), iv (nI (us S r)), iv (nI (j + 1)), un] d_81_13 rfl rfl (nI_1 j) rfl rfl ?_
        refine r_goto 3 d_81_16 (by decide) ?_
        exact z
      · have hfree : ∀ o, o ∈ all S → sg o ≠ j := fun o ho e => hex ⟨o, ho, e⟩
        have hv := m.fr hj97 hfree
        have z := fin j hj97 hfree
        refine r_aload_n 4 d_81_3 rfl rfl ?_
        refine r_getR 7 3 4 6 (some 4) d_81_4 rfl fk_3_22 rfl (by decide) (MT.f4 m.mt) ?_
        refine r_iload 9 d_81_7 rfl rfl ?_
        refine r_iald 10 j (-1) d_81_9 rfl rfl (MT.l6_4 m.mt hj97) hv ?_
        refine r_if_lt 19 13 d_81_10 (by decide) rfl (fun c_10 => ?_) (fun c_10 => absurd (by decide) c_10)
        exact z
  have z := look 97 0 un rfl (fun i hi => absurd hi (Nat.not_lt_zero i))
  refine r_iconst 1 (nI 0) d_81_0 rfl (by decide) ?_
  refine r_istore 3 [rv 3 (some 0), iv (nI w), iv (nI n), iv (nI r), iv (nI (us S r)), iv (nI 0), un] d_81_1 rfl rfl rfl ?_
  exact z
