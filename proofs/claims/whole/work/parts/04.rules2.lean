/-! rules that read and write fields and arrays -/
def fok (own : String) (idx s f : Nat) : Prop := s < 4 ∧ f < (cT s).2.2 ∧ ((cT s).2.1 f).1 = (cT s).1 ∧ (Cond.fieldLink own idx (cT s).1 ((cT s).2.1 f).2.1 ((cT s).2.1 f).2.2.1 ∈ gd ∨ ∃ host, Cond.fieldLinkNest own idx (cT s).1 ((cT s).2.1 f).2.1 ((cT s).2.1 f).2.2.1 host ∈ nst)
def fnok (y idx s f : Nat) : Prop := ((cT s).2.1 f).2.2.2 = true ∧ (nm y).name = "<init>" ∧ (cT s).1 = (nm y).cls ∧ Cond.fieldLink (nm y).cls idx (cT s).1 ((cT s).2.1 f).2.1 ((cT s).2.1 f).2.2.1 ∈ gd
theorem mkE_congr {aC : Nat → ClassId} {ad : AD} {h h' : AH} {s i : Nat} (e1 : ∀ k, hI h' s i k = hI h s i k) (e2 : ∀ k, hR h' s i k = hR h s i k) (e3 : hL h' s i = hL h s i) : mkE aC ad h' s i = mkE aC ad h s i := by
  have e1' : hI h' s i = hI h s i := funext e1
  have e4 : fv ad h' s i = fv ad h s i := by funext k; unfold fv; rw [e1, e2]
  have e5 : (fun j => (hR h' s i j).map (ad (cs s j))) = fun j => (hR h s i j).map (ad (cs s j)) := by funext j; rw [e2]
  unfold mkE
  rw [e4, e5, e3, e1']
theorem Cn_set {aC : Nat → ClassId} {ad : AD} {h h' : AH} {ws : va_W} {q0 s i : Nat} {e' : va_E} (hc : Cn aC ad h ws) (hs : s < 8) (hi : i < hC h s) (hq : ws[q0]? = some (ad s i, mkE aC ad h s i)) (hC' : ∀ s, hC h' s = hC h s) (he : mkE aC ad h' s i = e') (ho : ∀ s' i', ¬ (s' = s ∧ i' = i) → mkE aC ad h' s' i' = mkE aC ad h s' i') : Cn aC ad h' (ws.set q0 (ad s i, e')) := by
  refine ⟨fun s' i' hs' hi' => ?_, fun s1 i1 s2 i2 a b c d e => hc.2 s1 i1 s2 i2 a b (by rw [hC'] at c; exact c) (by rw [hC'] at d; exact d) e⟩
  rw [hC'] at hi'
  by_cases hx : s' = s ∧ i' = i
  · obtain ⟨rfl, rfl⟩ := hx
    exact ⟨q0, by rw [List.getElem?_set_self (List.getElem?_eq_some_iff.mp hq).1, he]⟩
  · obtain ⟨q, hq'⟩ := hc.1 s' i' hs' hi'
    refine ⟨q, ?_⟩
    have hne : q0 ≠ q := fun z => by
      subst z
      rw [hq] at hq'
      have e0 : ad s i = ad s' i' := congrArg Prod.fst (Option.some.inj hq')
      obtain ⟨z1, z2⟩ := hc.2 s i s' i' hs hs' hi hi' e0
      exact hx ⟨z1.symm, z2.symm⟩
    rw [List.getElem?_set_ne hne, hq', ho s' i' hx]
theorem mkE_obj {aC : Nat → ClassId} {ad : AD} {h : AH} {s i : Nat} (hs : s < 4) : mkE aC ad h s i = .inr (s, (List.range (cT s).2.2).map (fv ad h s i)) := by rw [mkE, if_pos hs]
theorem mkE_ref {aC : Nat → ClassId} {ad : AD} {h : AH} {s i : Nat} (h4 : 4 ≤ s) (h6 : s < 6) : mkE aC ad h s i = .inl (aC s, hL h s i, .inr (.inr (.inr (.inr (fun j => (hR h s i j).map (ad (cs s j))))))) := by rw [mkE, if_neg (by omega), if_pos h6]
theorem mkE_int {aC : Nat → ClassId} {ad : AD} {h : AH} {s i : Nat} (h6 : 6 ≤ s) : mkE aC ad h s i = .inl (aC s, hL h s i, .inl (hI h s i)) := by rw [mkE, if_neg (by omega), if_neg (by omega)]
theorem fs_set {ad : AD} {h h' : AH} {s i f : Nat} {v : Value} (hf : fv ad h' s i f = v) (ho : ∀ j, j ≠ f → fv ad h' s i j = fv ad h s i j) (N : Nat) : (List.range N).map (fv ad h' s i) = ((List.range N).map (fv ad h s i)).set f v := by
  apply List.ext_getElem?
  intro j
  rw [List.getElem?_set]
  by_cases hj : f = j
  · subst hj
    simp only [if_true, List.length_map, List.length_range]
    by_cases hl : f < N
    · simp [hl, hf]
    · simp [hl]
  · rw [if_neg hj]
    simp only [List.getElem?_map]
    cases hr : (List.range N)[j]? with
    | none => rfl
    | some x =>
      have hx : x = j := by
        have := (List.getElem?_eq_some_iff.mp hr).2
        simpa using this.symm
      subst hx
      simp only [Option.map_some]
      rw [ho x (Ne.symm hj)]
theorem WF_sI {h : AH} {s i k : Nat} {v : Int32} (hw : WF h) : WF (sI h s i k v) := hw
theorem WF_sR {h : AH} {s i k : Nat} {o : Option Nat} (hw : WF h) (ho : ∀ j, o = some j → j < hC h (cs s k)) : WF (sR h s i k o) := by
  refine ⟨fun s' i' k' j hi hj => ?_, hw.2⟩
  rw [hR_sR] at hj
  split at hj
  · next hx =>
    obtain ⟨rfl, rfl, rfl⟩ := hx
    exact ho j hj
  · exact hw.1 s' i' k' j hi hj
theorem ext_sI {h : AH} {ad : AD} {s i k : Nat} {v : Int32} (hs : s < 8) : ext h (sI h s i k v) ad ad := by
  refine ⟨fun _ _ q => ⟨q, rfl⟩, rfl, rfl, ?_⟩
  funext i' k'
  show (if 8 = s ∧ k' = k ∧ i' = i then v else _) = _
  rw [if_neg (by omega)]
theorem ext_sR {h : AH} {ad : AD} {s i k : Nat} {o : Option Nat} : ext h (sR h s i k o) ad ad := ⟨fun _ _ q => ⟨q, rfl⟩, rfl, rfl, rfl⟩
section RULES2
variable {y pc : Nat} {ls st : List AV} {h : AH} {k n : Nat} {Q : PQ}
section FLD
variable {p : Program} {l : Launch} {e : Env} {R : Room} {s : State} {m : MethodId} {args : Array Value} {below : List Frame} {meth : Method} {c : Code} {D : va_G} {aC : Nat → ClassId} {A : Nat → Prop} {H : Heap} {locs : List Loc} {cells slots : Nat} {ws : va_W} {lsC : Array Slot} {Qf : State → Prop} {rest : List Value}
theorem fld_get {idx s0 f q0 a : Nat} {fs : List Value} {v : Value} (C : Cx y D aC A p R s m args meth c) (hP : va_P D classes ws H) (hf : fok (nm y).cls idx s0 f) (hq : ws[q0]? = some (a, .inr (s0, fs))) (hv : fs[f]? = some v) (hd : decode (bC y) pc = .ok (.getfield idx, 3))
    (w : W p l e R s m args below meth c H locs cells slots Qf (F0 m (pc + 3) lsC (v :: rest))) : W p l e R s m args below meth c H locs cells slots Qf (F0 m pc lsC (.ref a :: rest)) := by
  obtain ⟨hx, hb, hr, hml, hown, hts, hlk, hnm, hN, hK, -⟩ := C
  obtain ⟨h4, hfN, hdc, hlk⟩ := hf
  rcases hlk with hlk | ⟨host, hlk⟩
  · exact va_get hx hb hts (gd_cls s0 h4) hown hK hP q0 hq (cl_at s0 h4) f hfN (hts _ hlk) (fun x hx => by rw [hdc] at hx; exact hx) hv hd w
  · exact va_getN hx hb hts (gd_cls s0 h4) hown hK hP q0 hq (cl_at s0 h4) f hfN (va_Nw.use rfl (hN _ hlk)) (fun x hx => by rw [hdc] at hx; exact hx) hv hd w
theorem fld_put {idx s0 f q0 a : Nat} {fs : List Value} {v : Value} {H0 : Heap} (C : Cx y D aC A p R s m args meth c) (hP : va_P D classes ws H) (hD : va_D A ws) (hS : va_S A H0 H locs) (hf : fok (nm y).cls idx s0 f) (hfin : ((cT s0).2.1 f).2.2.2 = false ∨ fnok y idx s0 f) (hq : ws[q0]? = some (a, .inr (s0, fs))) (hl : f < fs.length) (hn : narrow (fT s0 f) v = v) (hfit : fits (fT s0 f) v = true) (hd : decode (bC y) pc = .ok (.putfield idx, 3))
    (kk : ∀ (H1 : Heap) (locs1 : List Loc), va_P D classes (ws.set q0 (a, .inr (s0, fs.set f v))) H1 → va_D A (ws.set q0 (a, .inr (s0, fs.set f v))) → va_S A H0 H1 locs1 → W p l e R s m args below meth c H1 locs1 cells slots Qf (F0 m (pc + 3) lsC rest)) : W p l e R s m args below meth c H locs cells slots Qf (F0 m pc lsC (v :: .ref a :: rest)) := by
  obtain ⟨hx, hb, hr, hml, hown, hts, hlk, hnm, hN, hK, -⟩ := C
  obtain ⟨h4, hfN, hdc, hlk⟩ := hf
  rcases hfin with hfin | ⟨g1, g2, g3, g4⟩
  · rcases hlk with hlk | ⟨host, hlk⟩
    · exact va_put hx hb hts (gd_cls s0 h4) (fT s0) (ty_at s0 h4) (nm_at s0 h4) hown hK hP hD hS q0 hq (cl_at s0 h4) f hfN (hts _ hlk) (fun x hx => by rw [hdc] at hx; exact hx) hfin (ty_at s0 h4 f hfN) hn hfit hl hd kk
    · exact va_putN hx hb hts (gd_cls s0 h4) (fT s0) (ty_at s0 h4) (nm_at s0 h4) hown hK hP hD hS q0 hq (cl_at s0 h4) f hfN (va_Nw.use rfl (hN _ hlk)) (fun x hx => by rw [hdc] at hx; exact hx) hfin (ty_at s0 h4 f hfN) hn hfit hl hd kk
  · exact va_putF hx hb hts (gd_cls s0 h4) (fT s0) (ty_at s0 h4) (nm_at s0 h4) hown hK hP hD hS q0 hq (cl_at s0 h4) f hfN (hts _ g4) (fun x hx => by rw [hdc] at hx; exact hx) g1 (hnm g2) (hdc.trans g3) (ty_at s0 h4 f hfN) hn hfit hl hd kk
end FLD
theorem r_getI (pc' s0 f : Nat) {i : Nat} (v : Int32) {idx : Nat} (hd : decode (bC y) pc = .ok (.getfield idx, 3)) (hp : pc + 3 = pc') (hf : fok (nm y).cls idx s0 f) (hg : cs s0 f = 99) (hv : hI h s0 i f = v) (t : TT y pc' ls (iv v :: st) h k n Q) : TT y pc ls (rv s0 (some i) :: st) h k n Q := by
  subst hp
  intro p l e R s m args below meth c D aC A C H locs cells slots ad ws lsC Qf hw hL hst g1 g2 hk
  have w := t p l e R s m args below meth c D aC A C H locs cells slots ad ws lsC Qf hw hL (vk_c (vok_i h v) (vk_t hst)) g1 g2 hk
  obtain ⟨q0, hq⟩ := hw.2.1.1 s0 i (Nat.lt_trans hf.1 (by decide)) (vok_some (vk_h hst))
  rw [mkE_obj hf.1] at hq
  exact fld_get C hw.2.2.1 hf hq (v := .int v) (by simp [fv, hg, hv, hf.2.1]) hd w
theorem r_getR (pc' s0 f t0 : Nat) {i : Nat} (o : Option Nat) {idx : Nat} (hd : decode (bC y) pc = .ok (.getfield idx, 3)) (hp : pc + 3 = pc') (hf : fok (nm y).cls idx s0 f) (hg : cs s0 f = t0) (ht0 : ¬ t0 = 99) (hv : hR h s0 i f = o) (t : TT y pc' ls (rv t0 o :: st) h k n Q) : TT y pc ls (rv s0 (some i) :: st) h k n Q := by
  subst hp
  intro p l e R s m args below meth c D aC A C H locs cells slots ad ws lsC Qf hw hL hst g1 g2 hk
  have hi := vok_some (vk_h hst)
  have w := t p l e R s m args below meth c D aC A C H locs cells slots ad ws lsC Qf hw hL (vk_c ((vok_r h t0 o).mpr (fun j hj => by rw [← hg]; exact hw.1.1 s0 i f j hi (hv.trans hj))) (vk_t hst)) g1 g2 hk
  rw [List.map_cons, cv_r] at w
  obtain ⟨q0, hq⟩ := hw.2.1.1 s0 i (Nat.lt_trans hf.1 (by decide)) hi
  rw [mkE_obj hf.1] at hq
  exact fld_get C hw.2.2.1 hf hq (v := va_rf (o.map (ad t0))) (by simp [fv, hg, ht0, hv, hf.2.1]) hd w
theorem r_putI (pc' s0 f : Nat) {i : Nat} {v : Int32} {idx : Nat} (hd : decode (bC y) pc = .ok (.putfield idx, 3)) (hp : pc + 3 = pc') (hf : fok (nm y).cls idx s0 f) (hfin : ((cT s0).2.1 f).2.2.2 = false ∨ fnok y idx s0 f) (hg : cs s0 f = 99) (hn : narrow (fT s0 f) (.int v) = .int v) (hfit : fits (fT s0 f) (.int v) = true) (t : TT y pc' ls st (sI h s0 i f v) k n Q) : TT y pc ls (iv v :: rv s0 (some i) :: st) h k n Q := by
  subst hp
  intro p l e R s m args below meth c D aC A C H locs cells slots ad ws lsC Qf hw hL hst g1 g2 hk
  have hi := vok_some (vk_h (vk_t hst))
  have h8 : s0 < 8 := Nat.lt_trans hf.1 (by decide)
  obtain ⟨q0, hq⟩ := hw.2.1.1 s0 i h8 hi
  have hq1 := hq
  rw [mkE_obj hf.1] at hq1
  have hE : ext h (sI h s0 i f v) ad ad := ext_sI h8
  refine fld_put C hw.2.2.1 hw.2.2.2.1 hw.2.2.2.2.1 hf hfin hq1 (by simp [hf.2.1]) hn hfit hd (fun H1 locs1 hP1 hD1 hS1 => ?_)
  refine t p l e R s m args below meth c D aC A C H1 locs1 cells slots ad _ lsC Qf ⟨WF_sI hw.1, ?_, hP1, hD1, hS1, hw.2.2.2.2.2.ext hE⟩ (hL.ext hE) (st_ext (vk_t (vk_t hst)) hE).1 g1 g2 (fun r h' pc ls H locs ad' ws a b c d e => hk r h' pc ls H locs ad' ws a b c d (hE.tr e))
  refine Cn_set hw.2.1 h8 hi hq (fun _ => rfl) ?_ (fun s' i' hx => mkE_congr (fun k => ?_) (fun _ => rfl) rfl)
  · rw [mkE_obj hf.1]
    rw [fs_set (h := h) (f := f) (v := .int v) (by simp [fv, hg, hI_sI]) (fun j hj => by simp [fv, hI_sI, hR_sI, hj])]
    rfl
  · rw [hI_sI, if_neg (fun z => hx ⟨z.1, z.2.2⟩)]
theorem r_putR (pc' s0 f t0 : Nat) {i : Nat} {o : Option Nat} {idx : Nat} (hd : decode (bC y) pc = .ok (.putfield idx, 3)) (hp : pc + 3 = pc') (hf : fok (nm y).cls idx s0 f) (hfin : ((cT s0).2.1 f).2.2.2 = false ∨ fnok y idx s0 f) (hg : cs s0 f = t0) (ht0 : ¬ t0 = 99) (hn : ∀ o, narrow (fT s0 f) (va_rf o) = va_rf o ∧ fits (fT s0 f) (va_rf o) = true) (t : TT y pc' ls st (sR h s0 i f o) k n Q) : TT y pc ls (rv t0 o :: rv s0 (some i) :: st) h k n Q := by
  subst hp
  intro p l e R s m args below meth c D aC A C H locs cells slots ad ws lsC Qf hw hL hst g1 g2 hk
  have hi := vok_some (vk_h (vk_t hst))
  have h8 : s0 < 8 := Nat.lt_trans hf.1 (by decide)
  have hvo := (vok_r h t0 o).mp (vk_h hst)
  obtain ⟨q0, hq⟩ := hw.2.1.1 s0 i h8 hi
  have hq1 := hq
  rw [mkE_obj hf.1] at hq1
  have hE : ext h (sR h s0 i f o) ad ad := ext_sR
  rw [List.map_cons, cv_r]
  refine fld_put C hw.2.2.1 hw.2.2.2.1 hw.2.2.2.2.1 hf hfin hq1 (by simp [hf.2.1]) (hn _).1 (hn _).2 hd (fun H1 locs1 hP1 hD1 hS1 => ?_)
  refine t p l e R s m args below meth c D aC A C H1 locs1 cells slots ad _ lsC Qf ⟨WF_sR hw.1 (fun j hj => by rw [hg]; exact hvo j hj), ?_, hP1, hD1, hS1, hw.2.2.2.2.2.ext hE⟩ (hL.ext hE) (st_ext (vk_t (vk_t hst)) hE).1 g1 g2 (fun r h' pc ls H locs ad' ws a b c d e => hk r h' pc ls H locs ad' ws a b c d (hE.tr e))
  refine Cn_set hw.2.1 h8 hi hq (fun _ => rfl) ?_ (fun s' i' hx => mkE_congr (fun _ => rfl) (fun k => ?_) rfl)
  · rw [mkE_obj hf.1]
    rw [fs_set (h := h) (f := f) (v := va_rf (o.map (ad t0))) (by simp [fv, hg, ht0, hR_sR]) (fun j hj => by simp [fv, hI_sR, hR_sR, hj])]
  · rw [hR_sR, if_neg (fun z => hx ⟨z.1, z.2.2⟩)]
theorem in_nI {x : Int32} {j N : Nat} (hx : x = nI j) (hj : j < N) (hN : N < 2 ^ 31) : vp_in x N ∧ x.toNatClampNeg = j := by
  subst hx
  exact ⟨vp_in_nI hj hN, nI_clamp (Nat.lt_trans hj hN)⟩
theorem r_iald (pc' j : Nat) {i : Nat} {x : Int32} (v : Int32) (hd : decode (bC y) pc = .ok (.iaload, 1)) (hp : pc + 1 = pc') (hx : x = nI j) (hj : j < hL h 6 i) (hv : hI h 6 i j = v) (t : TT y pc' ls (iv v :: st) h k n Q) : TT y pc ls (iv x :: rv 6 (some i) :: st) h k n Q := by
  subst hp; subst hv
  intro p l e R s m args below meth c D aC A C H locs cells slots ad ws lsC Qf hw hL hst g1 g2 hk
  have w := t p l e R s m args below meth c D aC A C H locs cells slots ad ws lsC Qf hw hL (vk_c (vok_i h _) (vk_t (vk_t hst))) g1 g2 hk
  obtain ⟨q0, hq⟩ := hw.2.1.1 6 i (by decide) (vok_some (vk_h (vk_t hst)))
  rw [mkE_int (by decide)] at hq
  obtain ⟨a1, a2⟩ := in_nI hx hj (hw.1.2 6 i)
  obtain ⟨hx', hb, hr, hml, hown, hts, hlk, hnm, hN, hK, -⟩ := C
  refine va_iald hx' hb hK hw.2.2.1 q0 2 hq rfl a1 hd ?_
  rw [a2]
  exact w
theorem r_bald (pc' j : Nat) {i : Nat} {x : Int32} (v : Int32) (hd : decode (bC y) pc = .ok (.baload, 1)) (hp : pc + 1 = pc') (hx : x = nI j) (hj : j < hL h 7 i) (hv : hI h 7 i j = v) (t : TT y pc' ls (iv v :: st) h k n Q) : TT y pc ls (iv x :: rv 7 (some i) :: st) h k n Q := by
  subst hp; subst hv
  intro p l e R s m args below meth c D aC A C H locs cells slots ad ws lsC Qf hw hL hst g1 g2 hk
  have w := t p l e R s m args below meth c D aC A C H locs cells slots ad ws lsC Qf hw hL (vk_c (vok_i h _) (vk_t (vk_t hst))) g1 g2 hk
  obtain ⟨q0, hq⟩ := hw.2.1.1 7 i (by decide) (vok_some (vk_h (vk_t hst)))
  rw [mkE_int (by decide)] at hq
  obtain ⟨a1, a2⟩ := in_nI hx hj (hw.1.2 7 i)
  obtain ⟨hx', hb, hr, hml, hown, hts, hlk, hnm, hN, hK, -⟩ := C
  refine va_zald hx' hb hK hw.2.2.1 q0 3 hq rfl a1 hd ?_
  rw [a2]
  exact w
theorem r_sald (pc' j : Nat) {i : Nat} {x : Int32} (v : Int32) (hd : decode (bC y) pc = .ok (.iaload, 1)) (hp : pc + 1 = pc') (hx : x = nI j) (hj : j < hL h 8 i) (hv : hI h 8 i j = v) (t : TT y pc' ls (iv v :: st) h k n Q) : TT y pc ls (iv x :: rv 8 (some i) :: st) h k n Q := by
  subst hp; subst hv
  intro p l e R s m args below meth c D aC A C H locs cells slots ad ws lsC Qf hw hL hst g1 g2 hk
  have w := t p l e R s m args below meth c D aC A C H locs cells slots ad ws lsC Qf hw hL (vk_c (vok_i h _) (vk_t (vk_t hst))) g1 g2 hk
  obtain ⟨b1, b2, b3⟩ := hw.2.2.2.2.2 i (vok_some (vk_h (vk_t hst)))
  obtain ⟨a1, a2⟩ := in_nI hx hj (hw.1.2 8 i)
  refine va_sld C.1 C.2.1 b1 b2 b3 hw.2.2.2.2.1 a1 hd ?_
  rw [a2]
  exact w
theorem r_slen (pc' : Nat) {i : Nat} (v : Int32) (hd : decode (bC y) pc = .ok (.arraylength, 1)) (hp : pc + 1 = pc') (hv : nI (hL h 8 i) = v) (t : TT y pc' ls (iv v :: st) h k n Q) : TT y pc ls (rv 8 (some i) :: st) h k n Q := by
  subst hp; subst hv
  intro p l e R s m args below meth c D aC A C H locs cells slots ad ws lsC Qf hw hL hst g1 g2 hk
  have w := t p l e R s m args below meth c D aC A C H locs cells slots ad ws lsC Qf hw hL (vk_c (vok_i h _) (vk_t hst)) g1 g2 hk
  obtain ⟨b1, b2, b3⟩ := hw.2.2.2.2.2 i (vok_some (vk_h hst))
  exact va_slen C.1 C.2.1 b1 b2 b3 hw.2.2.2.2.1 hd w
theorem r_alen (pc' s0 : Nat) {i : Nat} (v : Int32) (hd : decode (bC y) pc = .ok (.arraylength, 1)) (hp : pc + 1 = pc') (hs : s0 = 4 ∨ s0 = 5) (hv : nI (hL h s0 i) = v) (t : TT y pc' ls (iv v :: st) h k n Q) : TT y pc ls (rv s0 (some i) :: st) h k n Q := by
  subst hp; subst hv
  intro p l e R s m args below meth c D aC A C H locs cells slots ad ws lsC Qf hw hL hst g1 g2 hk
  have w := t p l e R s m args below meth c D aC A C H locs cells slots ad ws lsC Qf hw hL (vk_c (vok_i h _) (vk_t hst)) g1 g2 hk
  obtain ⟨q0, hq⟩ := hw.2.1.1 s0 i (by omega) (vok_some (vk_h hst))
  rw [mkE_ref (by omega) (by omega)] at hq
  obtain ⟨hx', hb, hr, hml, hown, hts, hlk, hnm, hN, hK, -⟩ := C
  rcases hs with rfl | rfl
  · exact va_alen hx' hb hK hw.2.2.1 q0 0 hq (ty := .object C_Item) rfl rfl hd w
  · exact va_alen hx' hb hK hw.2.2.1 q0 1 hq (ty := .object C_Region) rfl rfl hd w
theorem r_aald (pc' s0 t0 j : Nat) {i : Nat} {x : Int32} (o : Option Nat) (hd : decode (bC y) pc = .ok (.aaload, 1)) (hp : pc + 1 = pc') (hs : s0 = 4 ∧ t0 = 1 ∨ s0 = 5 ∧ t0 = 2) (hx : x = nI j) (hj : j < hL h s0 i) (hv : hR h s0 i j = o) (t : TT y pc' ls (rv t0 o :: st) h k n Q) : TT y pc ls (iv x :: rv s0 (some i) :: st) h k n Q := by
  subst hp; subst hv
  intro p l e R s m args below meth c D aC A C H locs cells slots ad ws lsC Qf hw hL hst g1 g2 hk
  have hi := vok_some (vk_h (vk_t hst))
  have hcs : cs s0 j = t0 := by rcases hs with ⟨rfl, rfl⟩ | ⟨rfl, rfl⟩ <;> rfl
  have w := t p l e R s m args below meth c D aC A C H locs cells slots ad ws lsC Qf hw hL (vk_c ((vok_r h t0 _).mpr (fun j' hj' => by rw [← hcs]; exact hw.1.1 s0 i j j' hi hj')) (vk_t (vk_t hst))) g1 g2 hk
  rw [List.map_cons, cv_r] at w
  obtain ⟨q0, hq⟩ := hw.2.1.1 s0 i (by omega) hi
  rw [mkE_ref (by omega) (by omega)] at hq
  obtain ⟨a1, a2⟩ := in_nI hx hj (hw.1.2 s0 i)
  obtain ⟨hx', hb, hr, hml, hown, hts, hlk, hnm, hN, hK, -⟩ := C
  rcases hs with ⟨rfl, rfl⟩ | ⟨rfl, rfl⟩
  · refine va_aldq hx' hb hK hw.2.2.1 q0 0 (C := C_Item) hq rfl a1 hd ?_
    rw [a2]
    exact w
  · refine va_aldq hx' hb hK hw.2.2.1 q0 1 (C := C_Region) hq rfl a1 hd ?_
    rw [a2]
    exact w
theorem upd_hI {h : AH} {s0 i j : Nat} {v : Int32} : upd (hI h s0 i) j v = hI (sI h s0 i j v) s0 i := by
  funext z
  rw [hI_sI]
  by_cases hz : z = j
  · subst hz; simp [upd]
  · simp [upd, hz]
theorem r_iast (pc' j : Nat) {i : Nat} {x v : Int32} (hd : decode (bC y) pc = .ok (.iastore, 1)) (hp : pc + 1 = pc') (hx : x = nI j) (hj : j < hL h 6 i) (t : TT y pc' ls st (sI h 6 i j v) k n Q) : TT y pc ls (iv v :: iv x :: rv 6 (some i) :: st) h k n Q := by
  subst hp
  intro p l e R s m args below meth c D aC A C H locs cells slots ad ws lsC Qf hw hL hst g1 g2 hk
  have hi := vok_some (vk_h (vk_t (vk_t hst)))
  obtain ⟨q0, hq⟩ := hw.2.1.1 6 i (by decide) hi
  have hq1 := hq
  rw [mkE_int (by decide)] at hq1
  obtain ⟨a1, a2⟩ := in_nI hx hj (hw.1.2 6 i)
  have hE : ext h (sI h 6 i j v) ad ad := ext_sI (by decide)
  obtain ⟨hx', hb, hr, hml, hown, hts, hlk, hnm, hN, hK, C2⟩ := id C
  refine va_iast hx' hb hK hw.2.2.1 hw.2.2.2.1 hw.2.2.2.2.1 q0 2 hq1 rfl a1 hd (fun H1 locs1 hP1 hD1 hS1 => ?_)
  refine t p l e R s m args below meth c D aC A C H1 locs1 cells slots ad _ lsC Qf ⟨WF_sI hw.1, ?_, hP1, hD1, hS1, hw.2.2.2.2.2.ext hE⟩ (hL.ext hE) (st_ext (vk_t (vk_t (vk_t hst))) hE).1 g1 g2 (fun r h' pc ls H locs ad' ws a b c d e => hk r h' pc ls H locs ad' ws a b c d (hE.tr e))
  refine Cn_set hw.2.1 (by decide) hi hq (fun _ => rfl) ?_ (fun s' i' hx => mkE_congr (fun k => ?_) (fun _ => rfl) rfl)
  · rw [mkE_int (by decide), a2, upd_hI]
    rfl
  · rw [hI_sI, if_neg (fun z => hx ⟨z.1, z.2.2⟩)]
theorem r_bast (pc' j : Nat) {i : Nat} {x v : Int32} (hd : decode (bC y) pc = .ok (.bastore, 1)) (hp : pc + 1 = pc') (hx : x = nI j) (hj : j < hL h 7 i) (hz : vp_nar .boolean v = v) (t : TT y pc' ls st (sI h 7 i j v) k n Q) : TT y pc ls (iv v :: iv x :: rv 7 (some i) :: st) h k n Q := by
  subst hp
  intro p l e R s m args below meth c D aC A C H locs cells slots ad ws lsC Qf hw hL hst g1 g2 hk
  have hi := vok_some (vk_h (vk_t (vk_t hst)))
  obtain ⟨q0, hq⟩ := hw.2.1.1 7 i (by decide) hi
  have hq1 := hq
  rw [mkE_int (by decide)] at hq1
  obtain ⟨a1, a2⟩ := in_nI hx hj (hw.1.2 7 i)
  have hE : ext h (sI h 7 i j v) ad ad := ext_sI (by decide)
  obtain ⟨hx', hb, hr, hml, hown, hts, hlk, hnm, hN, hK, C2⟩ := id C
  refine va_zast hx' hb hK hw.2.2.1 hw.2.2.2.1 hw.2.2.2.2.1 q0 3 hq1 rfl a1 hd (fun H1 locs1 hP1 hD1 hS1 => ?_)
  refine t p l e R s m args below meth c D aC A C H1 locs1 cells slots ad _ lsC Qf ⟨WF_sI hw.1, ?_, hP1, hD1, hS1, hw.2.2.2.2.2.ext hE⟩ (hL.ext hE) (st_ext (vk_t (vk_t (vk_t hst))) hE).1 g1 g2 (fun r h' pc ls H locs ad' ws a b c d e => hk r h' pc ls H locs ad' ws a b c d (hE.tr e))
  refine Cn_set hw.2.1 (by decide) hi hq (fun _ => rfl) ?_ (fun s' i' hx => mkE_congr (fun k => ?_) (fun _ => rfl) rfl)
  · rw [mkE_int (by decide), a2, hz, upd_hI]
    rfl
  · rw [hI_sI, if_neg (fun z => hx ⟨z.1, z.2.2⟩)]
theorem up_hR {ad : AD} {h : AH} {s0 t0 i j : Nat} {o : Option Nat} (hcs : ∀ z, cs s0 z = t0) : va_up (fun z => (hR h s0 i z).map (ad (cs s0 z))) j (o.map (ad t0)) = fun z => (hR (sR h s0 i j o) s0 i z).map (ad (cs s0 z)) := by
  funext z
  rw [hR_sR]
  by_cases hz : z = j
  · subst hz; simp [va_up, hcs]
  · simp [va_up, hz]
theorem r_aast (pc' s0 t0 j : Nat) {i : Nat} {x : Int32} {o : Option Nat} (hd : decode (bC y) pc = .ok (.aastore, 1)) (hp : pc + 1 = pc') (hs : s0 = 4 ∧ t0 = 1 ∨ s0 = 5 ∧ t0 = 2) (hx : x = nI j) (hj : j < hL h s0 i) (t : TT y pc' ls st (sR h s0 i j o) k n Q) : TT y pc ls (rv t0 o :: iv x :: rv s0 (some i) :: st) h k n Q := by
  subst hp
  intro p l e R s m args below meth c D aC A C H locs cells slots ad ws lsC Qf hw hL hst g1 g2 hk
  have hi := vok_some (vk_h (vk_t (vk_t hst)))
  have h8 : s0 < 8 := by omega
  have hcs : ∀ z, cs s0 z = t0 := by intro z; rcases hs with ⟨rfl, rfl⟩ | ⟨rfl, rfl⟩ <;> rfl
  have hvo := (vok_r h t0 o).mp (vk_h hst)
  obtain ⟨q0, hq⟩ := hw.2.1.1 s0 i h8 hi
  have hq1 := hq
  rw [mkE_ref (by omega) (by omega)] at hq1
  obtain ⟨a1, a2⟩ := in_nI hx hj (hw.1.2 s0 i)
  have hE : ext h (sR h s0 i j o) ad ad := ext_sR
  obtain ⟨hx', hb, hr, hml, hown, hts, hlk, hnm, hN, hK, C2⟩ := id C
  have key : ∀ (H1 : Heap) (locs1 : List Loc), va_P D classes (ws.set q0 (ad s0 i, .inl (aC s0, h.2.1 s0 i, .inr (.inr (.inr (.inr (va_up (fun z => (hR h s0 i z).map (ad (cs s0 z))) j (o.map (ad t0))))))))) H1 → va_D A (ws.set q0 (ad s0 i, .inl (aC s0, h.2.1 s0 i, .inr (.inr (.inr (.inr (va_up (fun z => (hR h s0 i z).map (ad (cs s0 z))) j (o.map (ad t0))))))))) → va_S A s.heap H1 locs1 → W p l e R s m args below meth c H1 locs1 cells slots Qf (F0 m (pc + 1) lsC (st.map (cv ad))) := by
    intro H1 locs1 hP1 hD1 hS1
    refine t p l e R s m args below meth c D aC A C H1 locs1 cells slots ad _ lsC Qf ⟨WF_sR hw.1 (fun j' hj' => by rw [hcs]; exact hvo j' hj'), ?_, hP1, hD1, hS1, hw.2.2.2.2.2.ext hE⟩ (hL.ext hE) (st_ext (vk_t (vk_t (vk_t hst))) hE).1 g1 g2 (fun r h' pc ls H locs ad' ws a b c d e => hk r h' pc ls H locs ad' ws a b c d (hE.tr e))
    refine Cn_set hw.2.1 h8 hi hq (fun _ => rfl) ?_ (fun s' i' hx => mkE_congr (fun _ => rfl) (fun k => ?_) rfl)
    · rw [mkE_ref (by omega) (by omega), up_hR hcs]
      rfl
    · rw [hR_sR, if_neg (fun z => hx ⟨z.1, z.2.2⟩)]
  cases o with
  | none =>
    rcases hs with ⟨rfl, rfl⟩ | ⟨rfl, rfl⟩
    · refine va_astqN hx' hb hK hw.2.2.1 hw.2.2.2.1 hw.2.2.2.2.1 q0 0 (C := C_Item) hq1 rfl a1 hd ?_
      rw [a2]; exact key
    · refine va_astqN hx' hb hK hw.2.2.1 hw.2.2.2.1 hw.2.2.2.2.1 q0 1 (C := C_Region) hq1 rfl a1 hd ?_
      rw [a2]; exact key
  | some v =>
    obtain ⟨qk, hqk⟩ := hw.2.1.1 t0 v (by omega) (hvo v rfl)
    rcases hs with ⟨rfl, rfl⟩ | ⟨rfl, rfl⟩
    · rw [mkE_obj (by decide)] at hqk
      refine va_astq hx' hb hK hw.2.2.1 hw.2.2.2.1 hw.2.2.2.2.1 q0 0 qk 1 (r := cT 1) hq1 rfl hqk rfl a1 hd ?_
      rw [a2]; exact key
    · rw [mkE_obj (by decide)] at hqk
      refine va_astq hx' hb hK hw.2.2.1 hw.2.2.2.1 hw.2.2.2.2.1 q0 1 qk 2 (r := cT 2) hq1 rfl hqk rfl a1 hd ?_
      rw [a2]; exact key
end RULES2
