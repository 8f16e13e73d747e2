/-! the law: its loop -/
theorem sub4 {L i : Nat} (hL : L ≤ 2048) (hi : i ≤ 4096) : nI L - nI 4 < nI i ↔ L < i + 4 := by
  by_cases h4 : 4 ≤ L
  · rw [pk_sub h4, nI_ltI (by omega) (by omega)]
    omega
  · have hn : ∀ q, q < 4 → (nI q - nI 4).toInt < 0 := by decide
    have h1 := hn L (by omega)
    have h2 : ¬ nI i < 0 := nI_pos (by omega)
    rw [Int32.lt_iff_toInt_lt] at h2 ⊢
    have e0 : (0 : Int32).toInt = 0 := by decide
    exact ⟨fun _ => by omega, fun _ => by omega⟩
theorem law_loop {L : Nat} (hLL : L ≤ 2048) : ∀ n i h S sg, L ≤ i + 4 * n + 3 → i ≤ 2051 → RC h S → RM h S sg → IV S → hL h 8 0 = L → TT 101 18 [rv 8 (some 0), rv 0 (some 0), rv 3 (some 0), iv (nI i)] [] h (2 * n) (10 * n) (fun r _ => r = some (iv 1)) := by
  intro n
  induction n with
  | zero =>
    intro i h S sg hn hi c m v e8
    have hlt : L < i + 4 := by omega
    refine r_iload_n 19 d_101_18 rfl rfl ?_
    refine r_aload_n 20 d_101_19 rfl rfl ?_
    refine r_slen 21 (nI L) d_101_20 rfl (by rw [e8]) ?_
    refine r_iconst 22 (nI 4) d_101_21 rfl (by decide) ?_
    refine r_isub 23 ((nI L) - (nI 4)) d_101_22 rfl rfl ?_
    refine r_icmp_gt 610 26 d_101_23 (by decide) rfl (fun c_23 => ?_) (fun c_23 => absurd ((sub4 hLL (by omega)).mpr hlt) c_23)
    refine r_iconst 611 (nI 1) d_101_610 rfl (by decide) ?_
    refine r_zreturn d_101_611 rfl rfl ?_
    rfl
  | succ n ih =>
    intro i h S sg hn hi c m v e8
    by_cases hlt : L < i + 4
    · skip
      refine r_iload_n 19 d_101_18 rfl rfl ?_
      refine r_aload_n 20 d_101_19 rfl rfl ?_
      refine r_slen 21 (nI L) d_101_20 rfl (by rw [e8]) ?_
      refine r_iconst 22 (nI 4) d_101_21 rfl (by decide) ?_
      refine r_isub 23 ((nI L) - (nI 4)) d_101_22 rfl rfl ?_
      refine r_icmp_gt 610 26 d_101_23 (by decide) rfl (fun c_23 => ?_) (fun c_23 => absurd ((sub4 hLL (by omega)).mpr hlt) c_23)
      refine r_iconst 611 (nI 1) d_101_610 rfl (by decide) ?_
      refine r_zreturn d_101_611 rfl rfl ?_
      rfl
    · have h4 : i + 4 ≤ L := by omega
      have nx : ∀ h' S' sg', RC h' S' → RM h' S' sg' → IV S' → hL h' 8 0 = L → TT 101 604 [rv 8 (some 0), rv 0 (some 0), rv 3 (some 0), iv (nI i)] [] h' (2 * n) (10 * n) (fun r _ => r = some (iv 1)) := by
        intro h' S' sg' c' m' v' e8'
        have z := ih (i + 4) h' S' sg' (by omega) (by omega) c' m' v' e8'
        refine r_iinc 607 (nI (i + 4)) [rv 8 (some 0), rv 0 (some 0), rv 3 (some 0), iv (nI (i + 4))] d_101_604 rfl rfl (nI_add _ _) rfl rfl ?_
        refine r_goto 18 d_101_607 (by decide) ?_
        exact z
      refine TT.widen (k := 2 + (0 + 2 * n)) (n := 10 + (0 + 10 * n)) (by omega) (by omega) ?_
      refine r_iload_n 19 d_101_18 rfl rfl ?_
      refine r_aload_n 20 d_101_19 rfl rfl ?_
      refine r_slen 21 (nI L) d_101_20 rfl (by rw [e8]) ?_
      refine r_iconst 22 (nI 4) d_101_21 rfl (by decide) ?_
      refine r_isub 23 ((nI L) - (nI 4)) d_101_22 rfl rfl ?_
      refine r_icmp_gt 610 26 d_101_23 (by decide) rfl (fun c_23 => absurd c_23 (fun z => hlt ((sub4 hLL (by omega)).mp z))) (fun c_23 => ?_)
      refine r_aload_n 27 d_101_26 rfl rfl ?_
      refine r_iload_n 28 d_101_27 rfl rfl ?_
      refine r_sald 29 i (hI h 8 0 i) d_101_28 rfl rfl (by omega) rfl ?_
      refine r_bipush 31 (nI 31) d_101_29 rfl (by decide) ?_
      refine r_iand 32 ((hI h 8 0 i) &&& (nI 31)) d_101_31 rfl rfl ?_
      obtain ⟨j, hj, ej⟩ := pk_andE (hI h 8 0 i) (m := nI 31) 5 (by decide)
      rw [ej]
      match j, hj with
      | 0, _ =>
        refine r_tableIn 120 d_101_32 (by decide) (by decide) (off := 88) (by decide) (by decide) ?_
        exact lo_make c m v e8 h4 nx
      | 1, _ =>
        refine r_tableIn 163 d_101_32 (by decide) (by decide) (off := 131) (by decide) (by decide) ?_
        exact lo_large c m v e8 h4 nx
      | 2, _ =>
        refine r_tableIn 206 d_101_32 (by decide) (by decide) (off := 174) (by decide) (by decide) ?_
        exact lo_link c m v e8 h4 nx
      | 3, _ =>
        refine r_tableIn 249 d_101_32 (by decide) (by decide) (off := 217) (by decide) (by decide) ?_
        exact lo_load c m v e8 h4 nx
      | 4, _ =>
        refine r_tableIn 292 d_101_32 (by decide) (by decide) (off := 260) (by decide) (by decide) ?_
        exact lo_hold c m v e8 h4 nx
      | 5, _ =>
        refine r_tableIn 325 d_101_32 (by decide) (by decide) (off := 293) (by decide) (by decide) ?_
        exact lo_collect c m v e8 h4 nx
      | 6, _ =>
        refine r_tableIn 348 d_101_32 (by decide) (by decide) (off := 316) (by decide) (by decide) ?_
        exact lo_full c m v e8 h4 nx
      | 7, _ =>
        refine r_tableIn 361 d_101_32 (by decide) (by decide) (off := 329) (by decide) (by decide) ?_
        exact lo_mark c m v e8 h4 nx
      | 8, _ =>
        refine r_tableIn 374 d_101_32 (by decide) (by decide) (off := 342) (by decide) (by decide) ?_
        exact lo_chosen c m v e8 h4 nx
      | 9, _ =>
        refine r_tableIn 397 d_101_32 (by decide) (by decide) (off := 365) (by decide) (by decide) ?_
        exact lo_serial c m v e8 h4 nx
      | 10, _ =>
        refine r_tableIn 420 d_101_32 (by decide) (by decide) (off := 388) (by decide) (by decide) ?_
        exact lo_region c m v e8 h4 nx
      | 11, _ =>
        refine r_tableIn 443 d_101_32 (by decide) (by decide) (off := 411) (by decide) (by decide) ?_
        exact lo_offset c m v e8 h4 nx
      | 12, _ =>
        refine r_tableIn 466 d_101_32 (by decide) (by decide) (off := 434) (by decide) (by decide) ?_
        exact lo_size c m v e8 h4 nx
      | 13, _ =>
        refine r_tableIn 489 d_101_32 (by decide) (by decide) (off := 457) (by decide) (by decide) ?_
        exact lo_kind c m v e8 h4 nx
      | 14, _ =>
        refine r_tableIn 512 d_101_32 (by decide) (by decide) (off := 480) (by decide) (by decide) ?_
        exact lo_used c m v e8 h4 nx
      | 15, _ =>
        refine r_tableIn 535 d_101_32 (by decide) (by decide) (off := 503) (by decide) (by decide) ?_
        exact lo_live c m v e8 h4 nx
      | 16, _ =>
        refine r_tableIn 558 d_101_32 (by decide) (by decide) (off := 526) (by decide) (by decide) ?_
        exact lo_incoming c m v e8 h4 nx
      | 17, _ =>
        refine r_tableIn 581 d_101_32 (by decide) (by decide) (off := 549) (by decide) (by decide) ?_
        exact lo_count c m v e8 h4 nx
      | j + 18, hj =>
        have hb : ∀ q, q < 14 → (17 : Int) < (nI (q + 18)).toInt := by decide
        refine r_tableOut 604 d_101_32 (Or.inr (hb j (by omega))) (by decide) ?_
        exact TT.widen (by omega) (by omega) (nx h S sg c m v e8)
