/-! rules that make cells, and calls -/
def adn (ad : AD) (h : AH) (s q : Nat) : AD := fun s' i' => if s' = s ∧ i' = h.1 s then q else ad s' i'
theorem ext_nw {h : AH} {ad : AD} {s n q : Nat} (hs : s < 8) : ext h (nw h s n) ad (adn ad h s q) := by
  refine ⟨fun s' i' hi => ⟨?_, ?_⟩, ?_, ?_, ?_⟩
  · rw [hC_nw]
    split
    · next hx => subst hx; exact Nat.lt_succ_of_lt hi
    · exact hi
  · unfold adn
    rw [if_neg]
    intro hx
    obtain ⟨rfl, rfl⟩ := hx
    exact absurd hi (Nat.lt_irrefl _)
  · rw [hC_nw, if_neg (by omega)]
  · funext i'
    show (if 8 = s ∧ _ then _ else _) = _
    rw [if_neg (by omega)]
  · funext i' k'
    show (if 8 = s ∧ _ then _ else _) = _
    rw [if_neg (by omega)]
theorem WF_nw {h : AH} {s n : Nat} (hw : WF h) (hn : n < 2 ^ 31) : WF (nw h s n) := by
  refine ⟨fun s' i' k' j hi hj => ?_, fun s' i' => ?_⟩
  · rw [hR_nw] at hj
    split at hj
    · cases hj
    · next hx =>
      have hi' : i' < hC h s' := by
        rw [hC_nw] at hi
        split at hi
        · next hz => subst hz; exact Nat.lt_of_le_of_ne (Nat.le_of_lt_succ hi) (fun z => hx ⟨rfl, z⟩)
        · exact hi
      have := hw.1 s' i' k' j hi' hj
      rw [hC_nw]
      split
      · next hz => rw [hz] at this; exact Nat.lt_succ_of_lt this
      · exact this
  · rw [hL_nw]
    split
    · exact hn
    · exact hw.2 s' i'
theorem mkE_ad {aC : Nat → ClassId} {ad ad' : AD} {h : AH} {s i : Nat} (hw : WF h) (hi : i < hC h s) (ha : ∀ s j, j < hC h s → ad' s j = ad s j) : mkE aC ad' h s i = mkE aC ad h s i := by
  have e1 : ∀ k, (hR h s i k).map (ad' (cs s k)) = (hR h s i k).map (ad (cs s k)) := by
    intro k
    cases hr : hR h s i k with
    | none => rfl
    | some j => simp only [Option.map_some]; rw [ha _ j (hw.1 s i k j hi hr)]
  have e4 : fv ad' h s i = fv ad h s i := by funext k; unfold fv; rw [e1]
  have e5 : (fun j => (hR h s i j).map (ad' (cs s j))) = fun j => (hR h s i j).map (ad (cs s j)) := by funext j; rw [e1]
  unfold mkE
  rw [e4, e5]
theorem Cn_new {aC : Nat → ClassId} {ad : AD} {h : AH} {ws : va_W} {s n q : Nat} {e' : va_E} (hw : WF h) (hc : Cn aC ad h ws) (hs : s < 8) (hq : ∀ (j : Nat) (x : Nat × va_E), ws[j]? = some x → x.1 ≠ q) (he : mkE aC (adn ad h s q) (nw h s n) s (h.1 s) = e') : Cn aC (adn ad h s q) (nw h s n) (ws ++ [(q, e')]) := by
  have hE : ext h (nw h s n) ad (adn ad h s q) := ext_nw hs
  have old : ∀ s' i', i' < hC (nw h s n) s' → (s' = s ∧ i' = h.1 s) ∨ i' < hC h s' := by
    intro s' i' hi
    rw [hC_nw] at hi
    split at hi
    · next hz =>
      subst hz
      rcases Nat.lt_or_ge i' (hC h s') with z | z
      · exact Or.inr z
      · exact Or.inl ⟨rfl, Nat.le_antisymm (Nat.le_of_lt_succ hi) z⟩
    · exact Or.inr hi
  have far : ∀ s' i', s' < 8 → i' < hC h s' → ad s' i' ≠ q := fun s' i' hs' hi' => by
    obtain ⟨j, hj⟩ := hc.1 s' i' hs' hi'
    exact hq j _ hj
  have new : adn ad h s q s (h.1 s) = q := by simp [adn]
  refine ⟨fun s' i' hs' hi' => ?_, fun s1 i1 s2 i2 a b c d e => ?_⟩
  · rcases old s' i' hi' with ⟨rfl, rfl⟩ | z
    · exact ⟨ws.length, by rw [new, he]; simp⟩
    · obtain ⟨j, hj⟩ := hc.1 s' i' hs' z
      refine ⟨j, ?_⟩
      rw [List.getElem?_append_left (List.getElem?_eq_some_iff.mp hj).1, hj, (hE.1 s' i' z).2]
      have e1 : mkE aC (adn ad h s q) (nw h s n) s' i' = mkE aC (adn ad h s q) h s' i' := by
        have hx : ¬ (s' = s ∧ i' = hC h s) := fun hx => by
          obtain ⟨rfl, rfl⟩ := hx
          exact absurd z (Nat.lt_irrefl _)
        exact mkE_congr (fun k => by rw [hI_nw, if_neg hx]) (fun k => by rw [hR_nw, if_neg hx]) (by rw [hL_nw, if_neg hx])
      rw [e1, mkE_ad hw z (fun s j hj => (hE.1 s j hj).2)]
  · rcases old s1 i1 c with ⟨rfl, rfl⟩ | z1 <;> rcases old s2 i2 d with ⟨rfl, rfl⟩ | z2
    · exact ⟨rfl, rfl⟩
    · rw [new, (hE.1 s2 i2 z2).2] at e
      exact absurd e.symm (far s2 i2 b z2)
    · rw [new, (hE.1 s1 i1 z1).2] at e
      exact absurd e (far s1 i1 a z1)
    · rw [(hE.1 s1 i1 z1).2, (hE.1 s2 i2 z2).2] at e
      exact hc.2 s1 i1 s2 i2 a b z1 z2 e
theorem fresh_of {A : Nat → Prop} {ws : va_W} {q : Nat} {e : va_E} (hD : va_D A (ws ++ [(q, e)])) : ∀ (j : Nat) (x : Nat × va_E), ws[j]? = some x → x.1 ≠ q := by
  intro j x hj hx
  have hl := (List.getElem?_eq_some_iff.mp hj).1
  have := hD.1 j ws.length x (q, e) (by rw [List.getElem?_append_left hl]; exact hj) (by simp) hx
  omega
section RULES3
variable {y pc : Nat} {ls st : List AV} {h : AH} {k n : Nat} {Q : PQ}
theorem vok_nw {h : AH} {s n : Nat} : vok (nw h s n) (rv s (some (h.1 s))) := by
  show h.1 s < hC (nw h s n) s
  rw [hC_nw, if_pos rfl]
  exact Nat.lt_succ_self _
/-- behind a cell that was made -/
theorem TT.made {p : Program} {l : Launch} {e : Env} {R : Room} {s : State} {m : MethodId} {args : Array Value} {below : List Frame} {meth : Method} {c : Code} {D : va_G} {aC : Nat → ClassId} {A : Nat → Prop} {H : Heap} {locs : List Loc} {cells slots : Nat} {ws : va_W} {lsC : Array Slot} {Qf : State → Prop} {ad : AD} {s0 len N q pc' : Nat} {e' : va_E}
    (C : Cx y D aC A p R s m args meth c) (hw : Wd D aC A s H locs h ad ws) (hs : s0 < 8) (hN : len < 2 ^ 31) (hLv : Lv lsC (mL y) h ad ls) (hst : ∀ v ∈ st, vok h v) (g1 : cells + (k + 1) ≤ R.cells) (g2 : slots + (n + N) ≤ R.slots) (hk : KK y h (k + 1) (n + N) Q p l e R s m args below meth c D aC A cells slots ad Qf)
    (t : TT y pc' ls (rv s0 (some (h.1 s0)) :: st) (nw h s0 len) k n Q) {H1 : Heap} (he : mkE aC (adn ad h s0 q) (nw h s0 len) s0 (h.1 s0) = e') (hP : va_P D classes (ws ++ [(q, e')]) H1) (hD : va_D A (ws ++ [(q, e')])) (hS : va_S A s.heap H1 locs) :
    W p l e R s m args below meth c H1 locs (cells + 1) (slots + N) Qf (F0 m pc' lsC (.ref q :: st.map (cv ad))) := by
  have hE : ext h (nw h s0 len) ad (adn ad h s0 q) := ext_nw hs
  have w := t p l e R s m args below meth c D aC A C H1 locs (cells + 1) (slots + N) (adn ad h s0 q) _ lsC Qf ⟨WF_nw hw.1 hN, Cn_new hw.1 hw.2.1 hs (fresh_of hD) he, hP, hD, hS, hw.2.2.2.2.2.ext hE⟩ (hLv.ext hE) (vk_c vok_nw (st_ext hst hE).1) (by omega) (by omega)
    (fun r h' pc ls H locs ad' ws a b c d e => by
      have := hk r h' pc ls H locs ad' ws a b c d (hE.tr e)
      rw [show cells + 1 + k = cells + (k + 1) by omega, show slots + N + n = slots + (n + N) by omega]
      exact this)
  rw [List.map_cons, (st_ext hst hE).2] at w
  have new : cv (adn ad h s0 q) (rv s0 (some (h.1 s0))) = .ref q := by
    show Value.ref (adn ad h s0 q s0 (h.1 s0)) = _
    simp [adn]
  rw [new] at w
  exact w
def nok (own : String) (idx s : Nat) : Prop := s < 4 ∧ Cond.classLink own idx (cT s).1 ∈ gd ∧ Cond.instantiable (cT s).1 (cT s).2.2 ∈ gd ∧ Cond.initialized (cT s).1 ∈ gd
theorem r_new (pc' s0 : Nat) {idx : Nat} (hd : decode (bC y) pc = .ok (.new idx, 3)) (hp : pc + 3 = pc') (hn : nok (nm y).cls idx s0) (t : TT y pc' ls (rv s0 (some (h.1 s0)) :: st) (nw h s0 0) k n Q) : TT y pc ls st h (k + 1) (n + (cT s0).2.2) Q := by
  subst hp
  intro p l e R s m args below meth c D aC A C H locs cells slots ad ws lsC Qf hw hLv hst g1 g2 hk
  obtain ⟨h4, n1, n2, n3⟩ := hn
  have h8 : s0 < 8 := Nat.lt_trans h4 (by decide)
  obtain ⟨hx', hb, hr, hml, hown, hts, hlk, hnm, hN, hK, -, -, hA, -⟩ := id C
  refine va_new (ci := s0) (fs := (List.range (cT s0).2.2).map (fun j => if cs s0 j = 99 then Value.int 0 else .null)) hx' hb hts (gd_cls s0 h4) (fT s0) (ty_at s0 h4) hown (hts _ n1) (hts _ n2) (hts _ n3) hK hw.2.2.1 hw.2.2.2.1 hw.2.2.2.2.1 hA (cl_at s0 h4) (fun j hj => ?_) (by omega) (by omega) hd (fun q H1 hP hD hS => ?_)
  · rw [df_at s0 h4 j hj]
    simp [vp_V, List.getD_eq_getElem?_getD, hj]
  · refine TT.made C hw h8 (by decide) hLv hst g1 g2 hk t ?_ hP hD hS
    rw [mkE_obj h4]
    congr 2
    apply List.map_congr_left
    intro j _
    show (if cs s0 j = 99 then Value.int (hI (nw h s0 0) s0 (h.1 s0) j) else va_rf ((hR (nw h s0 0) s0 (h.1 s0) j).map _)) = _
    have e1 : hI (nw h s0 0) s0 (h.1 s0) j = 0 := by rw [hI_nw]; exact if_pos ⟨rfl, rfl⟩
    have e2 : hR (nw h s0 0) s0 (h.1 s0) j = none := by rw [hR_nw]; exact if_pos ⟨rfl, rfl⟩
    rw [e1, e2]
    rfl
theorem mkE_nwI {aC : Nat → ClassId} {ad : AD} {h : AH} {s0 len : Nat} (h6 : 6 ≤ s0) : mkE aC ad (nw h s0 len) s0 (h.1 s0) = .inl (aC s0, len, .inl (fun _ => 0)) := by
  rw [mkE_int h6]
  have e1 : hI (nw h s0 len) s0 (h.1 s0) = fun _ => 0 := by funext j; rw [hI_nw, if_pos ⟨rfl, rfl⟩]
  have e2 : hL (nw h s0 len) s0 (h.1 s0) = len := by rw [hL_nw, if_pos ⟨rfl, rfl⟩]
  rw [e1, e2]
theorem mkE_nwR {aC : Nat → ClassId} {ad : AD} {h : AH} {s0 len : Nat} (h4 : 4 ≤ s0) (h6 : s0 < 6) : mkE aC ad (nw h s0 len) s0 (h.1 s0) = .inl (aC s0, len, .inr (.inr (.inr (.inr (fun _ => none))))) := by
  rw [mkE_ref h4 h6]
  have e1 : (fun j => (hR (nw h s0 len) s0 (h.1 s0) j).map (ad (cs s0 j))) = fun _ => none := by funext j; rw [hR_nw, if_pos ⟨rfl, rfl⟩]; rfl
  have e2 : hL (nw h s0 len) s0 (h.1 s0) = len := by rw [hL_nw, if_pos ⟨rfl, rfl⟩]
  rw [e1, e2]
theorem cA_eq {D : va_G} {aC : Nat → ClassId} {s : State} {cA : ClassId} {ty : FieldType} {t0 s0 : Nat} (ht : (tys aC)[t0]? = some (aC s0, ty)) (hK : va_K D classes (tys aC ++ [(cA, ty)]) s) : cA = aC s0 := by
  have h1 : (tys aC ++ [(cA, ty)])[t0]? = some (aC s0, ty) := by
    rw [List.getElem?_append_left (List.getElem?_eq_some_iff.mp ht).1]; exact ht
  have h2 : (tys aC ++ [(cA, ty)])[(tys aC).length]? = some (cA, ty) := by simp
  have a := (hK.2 _ _ h1).2
  have b := (hK.2 _ _ h2).2
  have fc : ∀ cX, va_RA s cX ty → s.vm.findClass ("[" ++ ty.toString) = some cX := by
    intro cX hX
    cases ty with
    | object C =>
      obtain ⟨-, -, -, -, -, q⟩ := hX
      exact q
    | _ => exact hX
  exact Option.some.inj ((fc _ b).symm.trans (fc _ a))
theorem r_newi (pc' N : Nat) {x : Int32} (hd : decode (bC y) pc = .ok (.newarray .int, 2)) (hp : pc + 2 = pc') (hx : x = nI N) (hN0 : N ≤ 100000) (t : TT y pc' ls (rv 6 (some (h.1 6)) :: st) (nw h 6 N) k n Q) : TT y pc ls (iv x :: st) h (k + 1) (n + N) Q := by
  subst hp; subst hx
  intro p l e R s m args below meth c D aC A C H locs cells slots ad ws lsC Qf hw hLv hst g1 g2 hk
  obtain ⟨hx', hb, hr, hml, hown, hts, hlk, hnm, hN, hK, -, -, hA, -⟩ := id C
  refine va_newa (atype := .int) (a0 := (N, .inl (fun _ => 0))) hx' hb (hts _ gd_int) rfl hK hw.2.2.1 hw.2.2.2.1 hw.2.2.2.2.1 hA (fun _ => rfl) (nI_pos (by omega)) (nI_clamp (by omega)) (by show N * 4 ≤ _; omega) (by omega) (by omega) hd (fun q cA H1 hK1 hP hD hS => ?_)
  have hcA : cA = aC 6 := cA_eq (t0 := 2) rfl hK1
  subst hcA
  exact TT.made C hw (by decide) (by omega) hLv (vk_t hst) g1 g2 hk t (mkE_nwI (by decide)) hP hD hS
theorem r_newz (pc' N : Nat) {x : Int32} (hd : decode (bC y) pc = .ok (.newarray .boolean, 2)) (hp : pc + 2 = pc') (hx : x = nI N) (hN0 : N ≤ 100000) (t : TT y pc' ls (rv 7 (some (h.1 7)) :: st) (nw h 7 N) k n Q) : TT y pc ls (iv x :: st) h (k + 1) (n + N) Q := by
  subst hp; subst hx
  intro p l e R s m args below meth c D aC A C H locs cells slots ad ws lsC Qf hw hLv hst g1 g2 hk
  obtain ⟨hx', hb, hr, hml, hown, hts, hlk, hnm, hN, hK, -, -, hA, -⟩ := id C
  refine va_newa (atype := .boolean) (a0 := (N, .inl (fun _ => 0))) hx' hb (hts _ gd_bool) rfl hK hw.2.2.1 hw.2.2.2.1 hw.2.2.2.2.1 hA (fun _ => rfl) (nI_pos (by omega)) (nI_clamp (by omega)) (by show N * 1 ≤ _; omega) (by omega) (by omega) hd (fun q cA H1 hK1 hP hD hS => ?_)
  have hcA : cA = aC 7 := cA_eq (t0 := 3) rfl hK1
  subst hcA
  exact TT.made C hw (by decide) (by omega) hLv (vk_t hst) g1 g2 hk t (mkE_nwI (by decide)) hP hD hS
theorem r_newq (pc' s0 N : Nat) {x : Int32} {idx : Nat} (hd : decode (bC y) pc = .ok (.anewarray idx, 3)) (hp : pc + 3 = pc') (hs : s0 = 4 ∧ Cond.classLink (nm y).cls idx C_Item ∈ gd ∨ s0 = 5 ∧ Cond.classLink (nm y).cls idx C_Region ∈ gd) (hx : x = nI N) (hN0 : N ≤ 100000) (t : TT y pc' ls (rv s0 (some (h.1 s0)) :: st) (nw h s0 N) k n Q) : TT y pc ls (iv x :: st) h (k + 1) (n + N) Q := by
  subst hp; subst hx
  intro p l e R s m args below meth c D aC A C H locs cells slots ad ws lsC Qf hw hLv hst g1 g2 hk
  obtain ⟨hx', hb, hr, hml, hown, hts, hlk, hnm, hN, hK, -, -, hA, hO1, hO2⟩ := id C
  rcases hs with ⟨rfl, hs⟩ | ⟨rfl, hs⟩
  · refine va_newq hx' hb hown (hts _ hs) hO1 hK hw.2.2.1 hw.2.2.2.1 hw.2.2.2.2.1 hA (nI_pos (by omega)) (nI_clamp (by omega)) (by omega) (by omega) (by omega) hd (fun q cA H1 hK1 hP hD hS => ?_)
    have hcA : cA = aC 4 := cA_eq (t0 := 0) rfl hK1
    subst hcA
    exact TT.made C hw (by decide) (by omega) hLv (vk_t hst) g1 g2 hk t (mkE_nwR (by decide) (by decide)) hP hD hS
  · refine va_newq hx' hb hown (hts _ hs) hO2 hK hw.2.2.1 hw.2.2.2.1 hw.2.2.2.2.1 hA (nI_pos (by omega)) (nI_clamp (by omega)) (by omega) (by omega) (by omega) hd (fun q cA H1 hK1 hP hD hS => ?_)
    have hcA : cA = aC 5 := cA_eq (t0 := 1) rfl hK1
    subst hcA
    exact TT.made C hw (by decide) (by omega) hLv (vk_t hst) g1 g2 hk t (mkE_nwR (by decide) (by decide)) hP hD hS
end RULES3
