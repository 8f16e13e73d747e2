/-! calls -/
def ent (y : Nat) (as : List AV) : List AV := as ++ List.replicate (mL y - as.length) un
def BW (D : va_G) (aC : Nat → ClassId) (h : AH) (ad : AD) (ws : va_W) (sz : Nat) (U : State) : Prop := U.heap.size = sz ∧ va_P D classes ws U.heap ∧ va_K D classes (tys aC) U ∧ va_D (fun _ => True) ws ∧ (∀ w ∈ nst, va_Nw w U) ∧ va_AO C_Item U ∧ va_AO C_Region U ∧ SX h ad (va_A ws sz) U U.heap
def RW (D : va_G) (aC : Nat → ClassId) (Q : PQ) (h : AH) (ad : AD) (A : Nat → Prop) (oc : Outcome) (t : State) : Prop := ∃ (r : Option AV) (h' : AH) (ad' : AD) (ws' : va_W), oc = .returned (r.map (cv ad')) ∧ Q r h' ∧ (∀ v, r = some v → vok h' v) ∧ WF h' ∧ Cn aC ad' h' ws' ∧ va_P D classes ws' t.heap ∧ va_D A ws' ∧ ext h h' ad ad'
def mkr (y : Nat) : Prop := Cond.code (nm y) (bC y) (mL y) (rt y) ∈ gd ∧ plainName (nm y).cls = true ∧ (nm y).cls ≠ "java/lang/invoke/MethodHandle" ∧ (nm y).cls ≠ "java/lang/invoke/VarHandle" ∧ Cond.initialized (nm y).cls ∈ gd
theorem lg_sl_len : ∀ (vs : List Value), (∀ v ∈ vs, ¬ v.category = 2) → lg_sl vs = vs.map Slot.val
  | [], _ => rfl
  | v :: vs, hv => by
    have h1 : ¬ v.category = 2 := hv v List.mem_cons_self
    have h2 := lg_sl_len vs (fun w hw => hv w (List.mem_cons_of_mem _ hw))
    rw [List.map_cons, ← h2]
    simp [lg_sl, h1]
theorem lv_wf_plain {ls : Array Slot} (h1 : ∀ (i : Nat) (v : Value), ls[i]? = some (.val v) → ¬ v.category = 2) (h2 : ∀ i : Nat, ls[i]? ≠ some .second) : lv_wf ls :=
  ⟨fun i v a b => absurd b (h1 i v a), fun i a => absurd a (h2 i)⟩
theorem ent_Lv {y : Nat} {as : List AV} {h : AH} {ad : AD} (hv : ∀ v ∈ as, vok h v) (hl : ∀ v ∈ as, islg v = false) (hn : as.length ≤ mL y) : Lv ((lg_sl (as.map (cv ad)) ++ List.replicate (mL y - (lg_sl (as.map (cv ad))).length) Slot.unset).toArray) (mL y) h ad (ent y as) := by
  have hcat : ∀ v ∈ as.map (cv ad), ¬ v.category = 2 := by
    intro v hm
    obtain ⟨a, ha, rfl⟩ := List.mem_map.mp hm
    exact cat_lg (hl a ha)
  have hlen : (lg_sl (as.map (cv ad))).length = as.length := by rw [lg_sl_len _ hcat]; simp
  have hent := lv_entry (as.map (cv ad)) (n := mL y) (by rw [hlen]; exact hn)
  refine ⟨by unfold ent; simp; omega, hent.1, hent.2.1, fun i v hi => ?_⟩
  unfold ent at hi
  by_cases hlt : i < as.length
  · rw [List.getElem?_append_left hlt] at hi
    refine Or.inr ⟨hv v (List.mem_of_getElem? hi), ?_⟩
    rw [hlen]
    simp only [List.getElem?_toArray]
    rw [lg_sl_len _ hcat, List.getElem?_append_left (by simpa using hlt)]
    simp [hi]
  · rw [List.getElem?_append_right (by omega)] at hi
    have := List.mem_of_getElem? hi
    exact Or.inl (List.eq_of_mem_replicate this)
theorem TT.met {y : Nat} {as : List AV} {h : AH} {k n : Nat} {Q : PQ} (hm : mkr y) (hT : TT y 0 (ent y as) [] h k n Q) (hl : ∀ v ∈ as, islg v = false) (hn : as.length ≤ mL y) (l : Launch) (D : va_G) (aC : Nat → ClassId) (ad : AD) (ws : va_W) (sz : Nat) (hwf : WF h) (hcn : Cn aC ad h ws) (hv : ∀ v ∈ as, vok h v) :
    Met l (nm y) (.code (nm y) (bC y) (mL y) (rt y) :: gd) ({ frames := fr y, cells := k, slots := n, locals := lo y }) (va_Pc (as.map (cv ad)) (BW D aC h ad ws sz)) (fun _ s0 oc t => RW D aC Q h ad (va_A ws sz) oc t ∧ va_F (va_A ws sz) s0 t) k n (va_A ws sz) := by
  refine Met.ofW (cc := bC y) (maxL := mL y) (ret := rt y) hm.2.1 rfl ?_
  intro p e s m args below meth c s₁ B hml hpc
  obtain ⟨rfl, hsz, hP, hK, hD0, hN, hO1, hO2, hX⟩ := hpc
  have hts := atoms_spec (ws := .code (nm y) (bC y) (mL y) (rt y) :: gd) B.pre
  have hlocks := B.notSynchronized
  have hr := B.returns
  have hx := B.exec
  have hb := B.bytes
  subst hsz
  have hA : ∀ q : Nat, s.heap.size ≤ q → va_A ws s.heap.size q := fun q hq => Or.inr hq
  have C : Cx y D aC (va_A ws s.heap.size) p (headSpec (.code (nm y) (bC y) (mL y) (rt y) :: gd) ({ frames := fr y, cells := k, slots := n, locals := lo y })).room s m (as.map (cv ad)).toArray meth c :=
    ⟨hx, hb, hr, hml, findClass_of_methodNamed B.named, fun w hw => hts w (List.mem_cons_of_mem _ hw), hlocks, (fun hin => (name_of_methodNamed B.named B.method).1.trans hin), hN, hK, Nat.le_refl _, Nat.le_refl _, hA, hO1, hO2⟩
  rw [lg_entry_eq]
  refine hT p l e _ s m _ below meth c D aC _ C s.heap [] 0 0 ad ws _ _ ⟨hwf, hcn, hP, hD0.self, va_S.rf, hX⟩ (ent_Lv hv hl hn) (fun _ hm => by cases hm) (by simp [headSpec]) (by simp [headSpec]) ?_
  intro r h' pc ls H locs ad' ws' hq hret hw hvr hE
  rw [Nat.zero_add, Nat.zero_add]
  have hf : ∀ q ∈ locs, va_A ws s.heap.size q.base := hw.2.2.2.2.1.2.2
  have fin : ∀ t : State, t.heap = H → RW D aC Q h ad (va_A ws s.heap.size) (.returned (r.map (cv ad'))) t ∧ va_F (va_A ws s.heap.size) s t := fun t ht =>
    ⟨⟨r, h', ad', ws', rfl, hq, hvr, hw.1, hw.2.1, by rw [ht]; exact hw.2.2.1, hw.2.2.2.1, hE⟩, hw.2.2.2.2.1.F ht⟩
  rcases hret with ⟨x, rfl, h1, h2⟩ | ⟨x, rfl, h1, h3, h2⟩ | ⟨s0, o, C0, rfl, h1, h2⟩ | ⟨rfl, h1, h2⟩
  · exact W.iret hx hb (hr.trans h1) (fun t ht _ => fin t ht) hf h2 hlocks
  · exact W.zret hx hb (hr.trans h1) h3 (fun t ht _ => fin t ht) hf h2 hlocks
  · exact W.aret hx hb (hr.trans h1) (Or.inl ⟨C0, rfl⟩) (by rw [cv_r]; exact va_rf_or _) (fun t ht _ => fin t ht) hf h2 hlocks
  · exact W.vret hx hb (hr.trans h1) (fun t ht _ => fin t ht) hf h2 hlocks
section CALLG
variable {p : Program} {l : Launch} {e : Env} {R : Room} {s : State} {m : MethodId} {args : Array Value} {below : List Frame} {meth : Method} {c : Code} {H : Heap} {locs : List Loc} {cells slots : Nat} {Q : State → Prop}
variable {pc : Nat} {ls : Array Slot} {rest st0 : List Value} {a : Array Value} {A0 A1 : Nat → Prop} {H0 : Heap} {mc ms : Nat} {free : Addr → Prop}
/-- behind a call, whatever it answers -/
theorem call_gen {P : Outcome → State → Prop} (hr : va_Run p l e R s m args below meth c H locs cells slots mc ms (F0 m pc ls st0) rest (fun st oc t => P oc t ∧ va_F A1 st t) free) (hS : va_S A0 H0 H locs) (hA : ∀ q, q < H.size → A1 q → A0 q) (hf : ∀ q, free q → A0 q)
    (kk : ∀ (v : Option Value) (t : State) (H1 : Heap) (locs1 : List Loc), t.heap = H1 → s.vm.Alike t.vm → P (.returned v) t → va_S A0 H0 H1 locs1 → W p l e R s m args below meth c H1 locs1 (cells + mc) (slots + ms) Q (F0 m (pc + 3) ls (v.toList ++ rest))) : W p l e R s m args below meth c H locs cells slots Q (F0 m pc ls st0) := by
  intro T hT X
  obtain ⟨v, st₀, t, T', L, h0, X', hL, e1, e2, ⟨hp, hz, hk⟩, st⟩ := hr T hT X
  rw [h0] at hz hk
  obtain ⟨t2, a1, b1⟩ := kk v t T'.heap (locs ++ L) e1.symm (by rw [← e2]; exact X'.warmed.alike) hp
    ⟨Nat.le_trans hS.1 (by rw [e1]; exact hz), fun q h1 h2 => by rw [e1, hk q (Nat.lt_of_lt_of_le h1 hS.1) (fun z => h2 (hA q (Nat.lt_of_lt_of_le h1 hS.1) z))]; exact hS.2.1 q h1 h2, fun q hq => by
      rcases List.mem_append.mp hq with h | h
      · exact hS.2.2 q h
      · exact hf _ (hL q h)⟩ T' rfl X'
  exact ⟨t2, st t2 a1, b1⟩
end CALLG
def lok (own : String) (idx y' : Nat) : Prop := Cond.methodLink own idx (nm y') ∈ gd ∨ ∃ host, Cond.methodLinkNest own idx (nm y') host ∈ nst
/-- what a call of y' out of y needs of the tables: the room -/
def rok (y y' na : Nat) : Bool := Nat.ble (fr y' + 1) (fr y) && Nat.ble (8 + (mL y' + 11) + lo y') (lo y) && Nat.ble na (mL y') && ((parseMethodDescriptor (nm y').desc).map (fun d => d.parameters.length) == some na)
theorem good_in {X : List Cond} (h : ∀ w ∈ X, w ∈ gd) : GoodIn gd X := fun w hw => ⟨h w hw, gd_good w (h w hw)⟩
theorem ws_in {y : Nat} (hm : mkr y) : ∀ w ∈ (.code (nm y) (bC y) (mL y) (rt y) :: gd : List Cond), w ∈ gd := fun w hw => by
  rcases List.mem_cons.mp hw with q | q
  · rw [q]; exact hm.1
  · exact q
theorem cats {ad : AD} : ∀ (st : List AV), ((st.map (cv ad)).map fun v => v.category).sum ≤ 2 * st.length
  | [] => Nat.le_refl _
  | v :: st => by
    have := cats (ad := ad) st
    rcases lv_cat (cv ad v) with q | q <;> simp only [List.map_cons, List.sum_cons, List.length_cons, q] <;> omega
theorem BW_blind {D : va_G} {aC : Nat → ClassId} {h : AH} {ad : AD} {ws : va_W} {sz : Nat} {av : List Value} : FrameBlind (va_Pc av (BW D aC h ad ws sz)) := by
  intro a U g mk q
  obtain ⟨q0, q1, q2, q3, q4, q5, q6, q7, q8⟩ := q
  refine ⟨q0, q1, q2, va_K.moved (u := U) (U := U.calling g mk a) (Vm.Alike.refl U.vm) q3, q4, fun w hw => nst_same w hw (u := U) rfl (q5 w hw), va_AO.moved (u := U) (Vm.Alike.refl U.vm) q6, va_AO.moved (u := U) (Vm.Alike.refl U.vm) q7, fun i hi => ?_⟩
  obtain ⟨a1, a2, a3⟩ := q8 i hi
  exact ⟨va_X.moved (u := U) (Vm.Alike.refl U.vm) a1, a2, a3⟩
theorem BW_of {y : Nat} {D : va_G} {aC : Nat → ClassId} {A : Nat → Prop} {p : Program} {R : Room} {s : State} {m : MethodId} {args : Array Value} {meth : Method} {c : Code} {H : Heap} {locs : List Loc} {h : AH} {ad : AD} {ws : va_W} (C : Cx y D aC A p R s m args meth c) (hw : Wd D aC A s H locs h ad ws) (U : State) (hU : U.heap = H) (hW : s.WarmedH U.vm) : BW D aC h ad ws H.size U := by
  obtain ⟨hx', hb, hr, hml, hown, hts, hlk, hnm, hN, hK, -, -, hA, hO1, hO2⟩ := C
  obtain ⟨w1, w2, w3, w4, w5, w6⟩ := hw
  refine ⟨by rw [hU], by rw [hU]; exact w3, va_K.moved hW.alike hK, w4.weaken (fun _ _ _ _ => trivial), fun w hw => nst_warm w hw hW (hN w hw), va_AO.moved hW.alike hO1, va_AO.moved hW.alike hO2, fun i hi => ?_⟩
  obtain ⟨a1, a2, a3⟩ := w6 i hi
  refine ⟨?_, by rw [hU]; exact Nat.lt_of_lt_of_le a2 w5.1, ?_⟩
  · rw [hU]
    exact va_X.moved hW.alike (a1.kept (w5.2.1 _ a2 a3))
  · intro z
    rcases z with ⟨q, e, hq⟩ | z
    · exact a3 (w4.2 q _ hq)
    · exact absurd (Nat.lt_of_lt_of_le a2 w5.1) (Nat.not_lt.mpr z)
section RULES4
variable {y pc : Nat} {ls st : List AV} {h : AH} {k n : Nat} {Q : PQ}
/-- behind the call -/
theorem TT.back {p : Program} {l : Launch} {e : Env} {R : Room} {s : State} {m : MethodId} {args : Array Value} {below : List Frame} {meth : Method} {c : Code} {D : va_G} {aC : Nat → ClassId} {A : Nat → Prop} {H : Heap} {locs : List Loc} {cells slots : Nat} {ws : va_W} {lsC : Array Slot} {Qf : State → Prop} {ad : AD} {pc' k1 n1 : Nat} {Q1 : PQ}
    (C : Cx y D aC A p R s m args meth c) (hw : Wd D aC A s H locs h ad ws) (hLv : Lv lsC (mL y) h ad ls) (hst : ∀ v ∈ st, vok h v) (g1 : cells + (k1 + k) ≤ R.cells) (g2 : slots + (n1 + n) ≤ R.slots) (hk : KK y h (k1 + k) (n1 + n) Q p l e R s m args below meth c D aC A cells slots ad Qf)
    (t : ∀ r h1, Q1 r h1 → TT y pc' ls (r.toList ++ st) h1 k n Q) {v : Option Value} {t' : State} {H1 : Heap} {locs1 : List Loc} (ht : t'.heap = H1) (hR : RW D aC Q1 h ad (va_A ws H.size) (.returned v) t') (hS : va_S A s.heap H1 locs1) :
    W p l e R s m args below meth c H1 locs1 (cells + k1) (slots + n1) Qf (F0 m pc' lsC (v.toList ++ st.map (cv ad))) := by
  obtain ⟨r, h', ad', ws', e1, q1, q2, q3, q4, q5, q6, q7⟩ := hR
  obtain ⟨hx', hb, hr, hml, hown, hts, hlk, hnm, hN, hK, -, -, hA, hO1, hO2⟩ := id C
  have hF : ∀ q, va_A ws H.size q → A q := fun q z => by
    rcases z with ⟨j, e, hq⟩ | z
    · exact hw.2.2.2.1.2 j _ hq
    · exact hA q (Nat.le_trans hw.2.2.2.2.1.1 z)
  have w := t r h' q1 p l e R s m args below meth c D aC A C H1 locs1 (cells + k1) (slots + n1) ad' ws' lsC Qf ⟨q3, q4, by rw [← ht]; exact q5, q6.weaken (fun _ q _ hq => hF q.1 hq), hS, hw.2.2.2.2.2.ext q7⟩ (hLv.ext q7) (fun v hv => by
      rcases List.mem_append.mp hv with z | z
      · exact q2 v (by simpa using z)
      · exact (st_ext hst q7).1 v z) (by omega) (by omega)
    (fun r h' pc ls H locs ad' ws a b c d e => by
      have := hk r h' pc ls H locs ad' ws a b c d (q7.tr e)
      rw [show cells + k1 + k = cells + (k1 + k) by omega, show slots + n1 + n = slots + (n1 + n) by omega]
      exact this)
  rw [List.map_append, (st_ext hst q7).2] at w
  have e2 : v = r.map (cv ad') := by injection e1
  rw [e2]
  cases r <;> exact w
/-- a call of an instance method -/
theorem r_callV (pc' y' s0 : Nat) {i idx k1 n1 : Nat} (as : List AV) {stk : List AV} (hd : decode (bC y) pc = .ok (.invokevirtual idx, 3)) (hp : pc + 3 = pc') (hm : mkr y') (hlk : lok (nm y).cls idx y') (hv : s0 < 4 ∧ (cT s0).1 = (nm y').cls ∧ Cond.instanceMethod (nm y') ∈ gd ∧ Cond.selects (nm y').cls (nm y') (nm y') ∈ gd) (hrk : rok y y' as.length = true) (hrk2 : Nat.ble (as.length + 1) (mL y') = true) (hl : as.all (fun v => !islg v) = true) (hs4 : Nat.ble st.length 4 = true) (hstk : stk = as.reverse ++ rv s0 (some i) :: st) (Q1 : PQ)
    (t1 : TT y' 0 (ent y' (rv s0 (some i) :: as)) [] h k1 n1 Q1) (t : ∀ r h1, Q1 r h1 → TT y pc' ls (r.toList ++ st) h1 k n Q) : TT y pc ls stk h (k1 + k) (n1 + n) Q := by
  subst hp; subst hstk
  intro p l e R s m args below meth c D aC A C H locs cells slots ad ws lsC Qf hw hLv hst g1 g2 hk
  obtain ⟨hx', hb, hr, hml, hown, hts, hlk', hnm, hN, hK, hfr, hlo, hA, hO1, hO2⟩ := id C
  simp only [rok, Bool.and_eq_true, Nat.ble_eq, beq_iff_eq] at hrk
  obtain ⟨⟨⟨rk1, rk2⟩, rk3⟩, rk4⟩ := hrk
  rw [Nat.ble_eq] at hrk2 hs4
  have hvr : vok h (rv s0 (some i)) := hst _ (List.mem_append_right _ List.mem_cons_self)
  have hvst : ∀ v ∈ st, vok h v := fun v hv => hst v (List.mem_append_right _ (List.mem_cons_of_mem _ hv))
  have hvas : ∀ v ∈ as, vok h v := fun v hv => hst v (List.mem_append_left _ (List.mem_reverse.mpr hv))
  have hlas : ∀ v ∈ rv s0 (some i) :: as, islg v = false := fun v hv => by
    rcases List.mem_cons.mp hv with q | q
    · rw [q]; rfl
    · simpa using List.all_eq_true.mp hl v q
  have hM := TT.met hm t1 hlas (by simpa using hrk2) l D aC ad ws H.size hw.1 hw.2.1 (vk_c hvr hvas)
  obtain ⟨q0, hq⟩ := hw.2.1.1 s0 i (Nat.lt_trans hv.1 (by decide)) (vok_some hvr)
  rw [mkE_obj hv.1] at hq
  have hpre : PreV s H (nm y').cls (ad s0 i) (va_Pc ((rv s0 (some i) :: as).map (cv ad)) (BW D aC h ad ws H.size)) (as.map (cv ad)) :=
    ⟨BW_blind, by rw [← hv.2.1]; exact va_recv hK hw.2.2.1 (cl_at s0 hv.1) hq, fun U hU hW => ⟨rfl, BW_of C hw U hU hW⟩⟩
  have hF : ∀ q, va_A ws H.size q → A q := fun q z => by
    rcases z with ⟨j, e, hq⟩ | z
    · exact hw.2.2.2.1.2 j _ hq
    · exact hA q (Nat.le_trans hw.2.2.2.2.1.1 z)
  have hstack : (F0 m pc lsC ((as.reverse ++ rv s0 (some i) :: st).map (cv ad))).stack = (as.map (cv ad)).reverse ++ .ref (ad s0 i) :: st.map (cv ad) := by
    show (as.reverse ++ rv s0 (some i) :: st).map (cv ad) = _
    rw [List.map_append, List.map_reverse, List.map_cons]
    rfl
  have hroom := lv_room (m := m) (pc := pc) (ls := lsC) (rest := (as.reverse ++ rv s0 (some i) :: st).map (cv ad)) (st := st.map (cv ad)) (Nat.le_trans (cats st) (by omega))
  rcases hlk with hlk | ⟨host, hlk⟩
  · exact call_gen (va_runV (As := as.map (cv ad)) (rest := st.map (cv ad)) ⟨hx', hb, hml, hown, hts⟩ hM (cwV as.length hts (good_in (fun w hw => by
        simp only [wsV, List.mem_append, List.mem_cons, List.not_mem_nil, or_false] at hw
        rcases hw with (rfl | rfl | rfl | rfl) | hw
        · exact hlk
        · exact hv.2.2.1
        · exact hv.2.2.2
        · exact hm.2.2.2.2
        · exact ws_in hm w (List.mem_cons.mpr hw))) rfl rfl rfl ⟨rfl, hm.2.2.1, hm.2.2.2.1, rk4⟩ ⟨Nat.le_trans rk1 hfr, Nat.le_trans rk2 hlo⟩) hpre rfl (by simp) (hLv.2.1) hstack hroom hd ⟨by omega, by omega⟩) hw.2.2.2.2.1 (fun q _ z => hF q z) hF
      (fun v t' H1 locs1 ht _ hP hS => TT.back C hw hLv hvst g1 g2 hk t ht hP hS)
  · exact call_gen (va_runVN (As := as.map (cv ad)) (rest := st.map (cv ad)) (C := (nm y').cls) ⟨hx', hb, hml, hown, hts⟩ hM ⟨va_cnB as.length hts (good_in (ws_in hm)) rfl rfl rfl (hN _ hlk) (hts _ hm.2.2.2.2) ⟨hm.2.2.1, hm.2.2.2.1, rk4⟩ ⟨Nat.le_trans rk1 hfr, Nat.le_trans rk2 hlo⟩, hts _ hv.2.2.1, hts _ hv.2.2.2⟩ hpre rfl (by simp) (hLv.2.1) hstack hroom hd ⟨by omega, by omega⟩) hw.2.2.2.2.1 (fun q _ z => hF q z) hF
      (fun v t' H1 locs1 ht _ hP hS => TT.back C hw hLv hvst g1 g2 hk t ht hP hS)
/-- a call of a static method of the class itself -/
theorem r_callS (pc' y' : Nat) {idx k1 n1 : Nat} (as : List AV) {stk : List AV} (hd : decode (bC y) pc = .ok (.invokestatic idx, 3)) (hp : pc + 3 = pc') (hm : mkr y') (hlk : Cond.methodLink (nm y).cls idx (nm y') ∈ gd) (hv : (nm y').cls = (nm y).cls ∧ Cond.static (nm y') ∈ gd) (hrk : rok y y' as.length = true) (hl : as.all (fun v => !islg v) = true) (hs4 : Nat.ble st.length 4 = true) (hstk : stk = as.reverse ++ st) (Q1 : PQ)
    (t1 : TT y' 0 (ent y' as) [] h k1 n1 Q1) (t : ∀ r h1, Q1 r h1 → TT y pc' ls (r.toList ++ st) h1 k n Q) : TT y pc ls stk h (k1 + k) (n1 + n) Q := by
  subst hp; subst hstk
  intro p l e R s m args below meth c D aC A C H locs cells slots ad ws lsC Qf hw hLv hst g1 g2 hk
  obtain ⟨hx', hb, hr, hml, hown, hts, hlk', hnm, hN, hK, hfr, hlo, hA, hO1, hO2⟩ := id C
  simp only [rok, Bool.and_eq_true, Nat.ble_eq, beq_iff_eq] at hrk
  obtain ⟨⟨⟨rk1, rk2⟩, rk3⟩, rk4⟩ := hrk
  rw [Nat.ble_eq] at hs4
  have hvst : ∀ v ∈ st, vok h v := fun v hv => hst v (List.mem_append_right _ hv)
  have hvas : ∀ v ∈ as, vok h v := fun v hv => hst v (List.mem_append_left _ (List.mem_reverse.mpr hv))
  have hlas : ∀ v ∈ as, islg v = false := fun v hv => by simpa using List.all_eq_true.mp hl v hv
  have hM := TT.met hm t1 hlas rk3 l D aC ad ws H.size hw.1 hw.2.1 hvas
  have hpre : PreS s H (va_Pc (as.map (cv ad)) (BW D aC h ad ws H.size)) (as.map (cv ad)) :=
    ⟨BW_blind, fun U hU hW => ⟨rfl, BW_of C hw U hU hW⟩⟩
  have hF : ∀ q, va_A ws H.size q → A q := fun q z => by
    rcases z with ⟨j, e, hq⟩ | z
    · exact hw.2.2.2.1.2 j _ hq
    · exact hA q (Nat.le_trans hw.2.2.2.2.1.1 z)
  have hstack : (F0 m pc lsC ((as.reverse ++ st).map (cv ad))).stack = (as.map (cv ad)).reverse ++ st.map (cv ad) := by
    show (as.reverse ++ st).map (cv ad) = _
    rw [List.map_append, List.map_reverse]
  have hroom := lv_room (m := m) (pc := pc) (ls := lsC) (rest := (as.reverse ++ st).map (cv ad)) (st := st.map (cv ad)) (Nat.le_trans (cats st) (by omega))
  exact call_gen (va_runS (As := as.map (cv ad)) (rest := st.map (cv ad)) ⟨hx', hb, hml, hown, hts⟩ hM (cwS as.length hts (good_in (fun w hw => by
        simp only [wsS, List.mem_append, List.mem_cons, List.not_mem_nil, or_false] at hw
        rcases hw with (rfl | rfl | rfl) | hw
        · exact hlk
        · exact hv.2
        · rw [← hv.1]; exact hm.2.2.2.2
        · exact ws_in hm w (List.mem_cons.mpr hw))) rfl rfl rfl ⟨hv.1, hm.2.2.1, hm.2.2.2.1, rk4⟩ ⟨Nat.le_trans rk1 hfr, Nat.le_trans rk2 hlo⟩) hpre rfl (by simp) (hLv.2.1) hstack hroom hd ⟨by omega, by omega⟩) hw.2.2.2.2.1 (fun q _ z => hF q z) hF
      (fun v t' H1 locs1 ht _ hP hS => TT.back C hw hLv hvst g1 g2 hk t ht hP hS)
/-- a constructor -/
theorem r_callI (pc' y' s0 : Nat) {i idx k1 n1 : Nat} (as : List AV) {stk : List AV} (hd : decode (bC y) pc = .ok (.invokespecial idx, 3)) (hp : pc + 3 = pc') (hm : mkr y') (hlk : lok (nm y).cls idx y') (hv : rt y' = none ∧ (nm y').name = "<init>" ∧ Cond.instanceMethod (nm y') ∈ gd) (hrk : rok y y' as.length = true) (hrk2 : Nat.ble (as.length + 1) (mL y') = true) (hl : as.all (fun v => !islg v) = true) (hs4 : Nat.ble st.length 4 = true) (hstk : stk = as.reverse ++ rv s0 (some i) :: st) (Q1 : PQ)
    (t1 : TT y' 0 (ent y' (rv s0 (some i) :: as)) [] h k1 n1 Q1) (t : ∀ r h1, Q1 r h1 → TT y pc' ls (r.toList ++ st) h1 k n Q) : TT y pc ls stk h (k1 + k) (n1 + n) Q := by
  subst hp; subst hstk
  intro p l e R s m args below meth c D aC A C H locs cells slots ad ws lsC Qf hw hLv hst g1 g2 hk
  obtain ⟨hx', hb, hr, hml, hown, hts, hlk', hnm, hN, hK, hfr, hlo, hA, hO1, hO2⟩ := id C
  simp only [rok, Bool.and_eq_true, Nat.ble_eq, beq_iff_eq] at hrk
  obtain ⟨⟨⟨rk1, rk2⟩, rk3⟩, rk4⟩ := hrk
  rw [Nat.ble_eq] at hrk2 hs4
  have hvr : vok h (rv s0 (some i)) := hst _ (List.mem_append_right _ List.mem_cons_self)
  have hvst : ∀ v ∈ st, vok h v := fun v hv => hst v (List.mem_append_right _ (List.mem_cons_of_mem _ hv))
  have hvas : ∀ v ∈ as, vok h v := fun v hv => hst v (List.mem_append_left _ (List.mem_reverse.mpr hv))
  have hlas : ∀ v ∈ rv s0 (some i) :: as, islg v = false := fun v hv => by
    rcases List.mem_cons.mp hv with q | q
    · rw [q]; rfl
    · simpa using List.all_eq_true.mp hl v q
  have hM := TT.met hm t1 hlas (by simpa using hrk2) l D aC ad ws H.size hw.1 hw.2.1 (vk_c hvr hvas)
  rw [hv.1] at hM
  have hws : ∀ w ∈ (.code (nm y') (bC y') (mL y') none :: gd : List Cond), w ∈ gd := fun w hw => ws_in hm w (by rw [hv.1]; exact hw)
  have hpre : PreS s H (va_Pc ((rv s0 (some i) :: as).map (cv ad)) (BW D aC h ad ws H.size)) (.ref (ad s0 i) :: as.map (cv ad)) :=
    ⟨BW_blind, fun U hU hW => ⟨rfl, BW_of C hw U hU hW⟩⟩
  have hF : ∀ q, va_A ws H.size q → A q := fun q z => by
    rcases z with ⟨j, e, hq⟩ | z
    · exact hw.2.2.2.1.2 j _ hq
    · exact hA q (Nat.le_trans hw.2.2.2.2.1.1 z)
  have hstack : (F0 m pc lsC ((as.reverse ++ rv s0 (some i) :: st).map (cv ad))).stack = (as.map (cv ad)).reverse ++ .ref (ad s0 i) :: st.map (cv ad) := by
    show (as.reverse ++ rv s0 (some i) :: st).map (cv ad) = _
    rw [List.map_append, List.map_reverse, List.map_cons]
    rfl
  have hroom := lv_room (m := m) (pc := pc) (ls := lsC) (rest := (as.reverse ++ rv s0 (some i) :: st).map (cv ad)) (st := st.map (cv ad)) (Nat.le_trans (cats st) (by omega))
  rcases hlk with hlk | ⟨host, hlk⟩
  · exact call_gen (va_runI (As := as.map (cv ad)) (rest := st.map (cv ad)) ⟨hx', hb, hml, hown, hts⟩ hM (cwI as.length hts (good_in hws) rfl rfl rfl (hts _ hm.2.2.2.2) (hts _ hlk) (hts _ hv.2.2) hv.2.1 ⟨hm.2.2.1, hm.2.2.2.1, rk4⟩ ⟨Nat.le_trans rk1 hfr, Nat.le_trans rk2 hlo⟩) hpre rfl (by simp) (hLv.2.1) hstack hroom hd ⟨by omega, by omega⟩) hw.2.2.2.2.1 (fun q _ z => hF q z) hF
      (fun v t' H1 locs1 ht _ hP hS => TT.back C hw hLv hvst g1 g2 hk t ht hP hS)
  · exact call_gen (va_runIN (As := as.map (cv ad)) (rest := st.map (cv ad)) ⟨hx', hb, hml, hown, hts⟩ hM ⟨va_cnB as.length hts (good_in hws) rfl rfl rfl (hN _ hlk) (hts _ hm.2.2.2.2) ⟨hm.2.2.1, hm.2.2.2.1, rk4⟩ ⟨Nat.le_trans rk1 hfr, Nat.le_trans rk2 hlo⟩, hv.2.1, hts _ hv.2.2⟩ hpre rfl (by simp) (hLv.2.1) hstack hroom hd ⟨by omega, by omega⟩) hw.2.2.2.2.1 (fun q _ z => hF q z) hF
      (fun v t' H1 locs1 ht _ hP hS => TT.back C hw hLv hvst g1 g2 hk t ht hP hS)
/-- Object's constructor -/
theorem r_obj (pc' : Nat) {s0 i idx : Nat} (hd : decode (bC y) pc = .ok (.invokespecial idx, 3)) (hp : pc + 3 = pc') (hlk : Cond.methodLink (nm y).cls idx Lib.objectInit ∈ gd) (hf : Nat.ble 1 (fr y) = true) (hlo : Nat.ble 20 (lo y) = true) (hs4 : Nat.ble st.length 4 = true) (t : TT y pc' ls st h k n Q) : TT y pc ls (rv s0 (some i) :: st) h k n Q := by
  subst hp
  rw [Nat.ble_eq] at hf hlo hs4
  intro p l e R s m args below meth c D aC A C H locs cells slots ad ws lsC Qf hw hLv hst g1 g2 hk
  have w := t p l e R s m args below meth c D aC A C H locs cells slots ad ws lsC Qf hw hLv (vk_t hst) g1 g2 hk
  obtain ⟨hx', hb, hr, hml, hown, hts, hlk', hnm, hN, hK, hfr, hlo', hA, hO1, hO2⟩ := id C
  refine W.objInit hx' hb hown (hts _ hlk) (hts _ gd_obj.1) (hts _ gd_obj.2) rfl (by show lsC.size = _; rw [hml]; exact hLv.2.1) (a := ad s0 i) (rest := st.map (cv ad)) rfl hd (by omega) ?_ w
  show 2 * 0 + _ + 12 ≤ R.locals
  have := cats (ad := ad) st
  omega
/-- Math.min -/
theorem r_min (pc' : Nat) {a b : Int32} {idx : Nat} (v : Int32) (hd : decode (bC y) pc = .ok (.invokestatic idx, 3)) (hp : pc + 3 = pc') (hlk : Cond.methodLink (nm y).cls idx Lib.Math.min.name ∈ gd) (hf : Nat.ble 1 (fr y) = true) (hlo : Nat.ble 21 (lo y) = true) (hs4 : Nat.ble st.length 4 = true) (hv : (if b < a then b else a) = v) (t : TT y pc' ls (iv v :: st) h k n Q) : TT y pc ls (iv b :: iv a :: st) h k n Q := by
  subst hp; subst hv
  rw [Nat.ble_eq] at hf hlo hs4
  intro p l e R s m args below meth c D aC A C H locs cells slots ad ws lsC Qf hw hLv hst g1 g2 hk
  have w := t p l e R s m args below meth c D aC A C H locs cells slots ad ws lsC Qf hw hLv (vk_c (vok_i h _) (vk_t (vk_t hst))) g1 g2 hk
  obtain ⟨hx', hb, hr, hml, hown, hts, hlk', hnm, hN, hK, hfr, hlo', hA, hO1, hO2⟩ := id C
  refine va_mmin hx' hb (by rw [hml]; exact hLv.2.1.symm) hown (hts _ hlk) (hts _ gd_min.1) (hts _ gd_min.2.1) (hts _ gd_min.2.2) (by omega) ?_ (by omega) (by omega) hd w
  have := cats (ad := ad) st
  omega
end RULES4
