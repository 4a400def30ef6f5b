theorem zcmpL {k L : Nat} {v : Int32} (hL : L ≤ 2560) (hk : k ≤ 2565) (hv : v = Int32.ofNat L - 5) (h : ¬ v < nI k) : k + 5 ≤ L := by
  have h1 : (Int32.ofNat L).toInt = (L : Int) := nI_toInt (n := L) (by omega)
  have h2 : v.toInt = (L : Int) - 5 := by
    rw [hv, Int32.toInt_sub, h1]
    show Int.bmod ((L : Int) - 5) (2 ^ 32) = _
    rw [Int.bmod_eq_of_le (by omega) (by omega)]
  rw [Int32.lt_iff_toInt_lt, h2, nI_toInt (by omega)] at h
  omega
set_option maxHeartbeats 4000000 in
set_option maxRecDepth 100000 in
theorem q_loop {p : Program} {l : Launch} {e : Env} {s : State} {m : MethodId} {args : Array Value} {below : List Frame} {meth : Method} {c : Code} {Q : State → Prop} {dC : Nat → ClassId} {dI : Nat → Nat → Nat} {cy : Nat → ClassId} {A : Nat → Prop} {b L : Nat} {xs : Nat → Int32} {x f n sc ia na d ka va o mo : Nat} {ad : Nat → Nat} {G2 : zG} {c0 s0 : Nat} (C : zLc p l s m args c dC dI cy A b L xs) (hc0 : c0 ≤ 1000) (hs0 : s0 ≤ 10000)
    (kx : ∀ (G1 : zG) (S1 S2 : zS) (H : Heap) (locs : List Loc) (ls : Array Slot) (cells slots : Nat), cells ≤ 777099 → slots ≤ 6764806 → va_S A s.heap H locs → W p l e room_1 s m args below meth c H locs cells slots Q (F0 m 790 ls [])) :
    ∀ (N k : Nat) (G1 : zG) (S1 S2 : zS) (H : Heap) (locs : List Loc) (ls : Array Slot), L ≤ 5 * k + 5 * N → 5 * k ≤ L + 4 → zLw dC dI cy s A x f n sc ia na d ka va o mo ad G1 S1 G2 S2 H locs → lv_has ls 7 [(4, .int (nI (5 * k))), (3, .ref o), (2, .ref mo), (1, .ref x), (0, .ref b)] → W p l e room_1 s m args below meth c H locs (c0 + 3 * k) (s0 + 25 * k) Q (F0 m 23 ls []) := by
  obtain ⟨⟨hx, hb, hml, hown, hts⟩, ⟨hX, hbl, hbA, hL⟩, hA, -⟩ := _root_.id C
  intro N
  induction N with
  | zero =>
    intro k G1 S1 S2 H locs ls h1 h2 h hl
    have hS := h.2.1
    refine lv_iload hx hb dL_law_23 (lv_at hl 0 rfl) ?_
    refine lv_aload_n hx hb dL_law_25 rfl (lv_at hl 4 rfl) ?_
    refine va_slen hx hb hX hbl hbA hS dL_law_26 ?_
    refine lv_iconst (v := 5) hx hb dL_law_27 (by decide) ?_
    refine lv_isub hx hb dL_law_28 ?_
    refine lv_topi (fun v ev => ?_)
    refine lv_icmp_gt (tgt := 790) hx hb dL_law_29 (by decide) (fun hc => ?_) (fun hc => ?_)
    · exact kx G1 S1 S2 H locs ls _ _ (by omega) (by omega) hS
    · have := zcmpL hL (by omega) ev hc
      omega
  | succ N ih =>
    intro k G1 S1 S2 H locs ls h1 h2 h hl
    have hS := h.2.1
    refine lv_iload hx hb dL_law_23 (lv_at hl 0 rfl) ?_
    refine lv_aload_n hx hb dL_law_25 rfl (lv_at hl 4 rfl) ?_
    refine va_slen hx hb hX hbl hbA hS dL_law_26 ?_
    refine lv_iconst (v := 5) hx hb dL_law_27 (by decide) ?_
    refine lv_isub hx hb dL_law_28 ?_
    refine lv_topi (fun v ev => ?_)
    refine lv_icmp_gt (tgt := 790) hx hb dL_law_29 (by decide) (fun hc => ?_) (fun hc => ?_)
    · exact kx G1 S1 S2 H locs ls _ _ (by omega) (by omega) hS
    · have h5 := zcmpL hL (by omega) ev hc
      have J : ∀ (G1' : zG) (S1' S2' : zS) (H' : Heap) (locs' : List Loc) (ls' : Array Slot), zLw dC dI cy s A x f n sc ia na d ka va o mo ad G1' S1' G2 S2' H' locs' → lv_has ls' 7 [(4, .int (nI (5 * k))), (3, .ref o), (2, .ref mo), (1, .ref x), (0, .ref b)] → W p l e room_1 s m args below meth c H' locs' (c0 + 3 * k + 3) (s0 + 25 * k + 25) Q (F0 m 784 ls' []) := by
        intro G1' S1' S2' H' locs' ls' h' hl'
        refine lv_iinc (v := nI (5 * (k + 1))) (lv' := [(4, .int (nI (5 * (k + 1)))), (3, .ref o), (2, .ref mo), (1, .ref x), (0, .ref b)]) hx hb dL_law_784 hl' (k := 0) rfl (by rw [show 5 * (k + 1) = 5 * k + 5 by omega, ← nI_add]; rfl) (by decide) rfl (fun ls hl => ?_)
        refine lv_goto (tgt := 23) hx hb dL_law_787 (by decide) ?_
        exact ih (k + 1) G1' S1' S2' H' locs' ls (by omega) (by omega) h' hl
      refine lv_aload_n hx hb dL_law_32 rfl (lv_at hl 4 rfl) ?_
      refine lv_iload hx hb dL_law_33 (lv_at hl 0 rfl) ?_
      refine va_sld hx hb hX hbl hbA hS (vp_in_nI (by omega) (by omega)) dL_law_35 ?_
      refine lv_bipush (v := 15) hx hb dL_law_36 (by decide) ?_
      refine lv_iand hx hb dL_law_38 ?_
      refine lv_topi (fun v1 ev1 => ?_)
      by_cases z0 : v1 = 0
      · refine lv_tableIn (tgt := 112) hx hb dL_law_39 (by rw [z0]; decide) (by rw [z0]; decide) (by rw [z0]; rfl) (by decide) ?_
        exact q_frame C (i5 := 5 * k) (by omega) rfl rfl rfl rfl (by omega) (by omega) h hl J
      by_cases z1 : v1 = 1
      · refine lv_tableIn (tgt := 189) hx hb dL_law_39 (by rw [z1]; decide) (by rw [z1]; decide) (by rw [z1]; rfl) (by decide) ?_
        exact q_listen C (i5 := 5 * k) (by omega) rfl rfl rfl rfl (by omega) (by omega) h hl J
      by_cases z2 : v1 = 2
      · refine lv_tableIn (tgt := 257) hx hb dL_law_39 (by rw [z2]; decide) (by rw [z2]; decide) (by rw [z2]; rfl) (by decide) ?_
        exact q_status C (i5 := 5 * k) (by omega) rfl rfl rfl rfl (by omega) (by omega) h hl J
      by_cases z3 : v1 = 3
      · refine lv_tableIn (tgt := 318) hx hb dL_law_39 (by rw [z3]; decide) (by rw [z3]; decide) (by rw [z3]; rfl) (by decide) ?_
        exact q_space C (i5 := 5 * k) (by omega) rfl rfl rfl rfl (by omega) (by omega) h hl J
      by_cases z4 : v1 = 4
      · refine lv_tableIn (tgt := 358) hx hb dL_law_39 (by rw [z4]; decide) (by rw [z4]; decide) (by rw [z4]; rfl) (by decide) ?_
        exact q_slot C (i5 := 5 * k) (by omega) rfl rfl rfl rfl (by omega) (by omega) h hl J
      by_cases z5 : v1 = 5
      · refine lv_tableIn (tgt := 426) hx hb dL_law_39 (by rw [z5]; decide) (by rw [z5]; decide) (by rw [z5]; rfl) (by decide) ?_
        exact q_write C (i5 := 5 * k) (by omega) rfl rfl rfl rfl (by omega) (by omega) h hl J
      by_cases z6 : v1 = 6
      · refine lv_tableIn (tgt := 478) hx hb dL_law_39 (by rw [z6]; decide) (by rw [z6]; decide) (by rw [z6]; rfl) (by decide) ?_
        exact q_disturb C (i5 := 5 * k) (by omega) rfl rfl rfl rfl (by omega) (by omega) h hl J
      by_cases z7 : v1 = 7
      · refine lv_tableIn (tgt := 515) hx hb dL_law_39 (by rw [z7]; decide) (by rw [z7]; decide) (by rw [z7]; rfl) (by decide) ?_
        exact q_wake C (i5 := 5 * k) (by omega) rfl rfl rfl rfl (by omega) (by omega) h hl J
      by_cases z8 : v1 = 8
      · refine lv_tableIn (tgt := 540) hx hb dL_law_39 (by rw [z8]; decide) (by rw [z8]; decide) (by rw [z8]; rfl) (by decide) ?_
        exact q_run C (i5 := 5 * k) (by omega) rfl rfl rfl rfl (by omega) (by omega) h hl J
      by_cases z9 : v1 = 9
      · refine lv_tableIn (tgt := 568) hx hb dL_law_39 (by rw [z9]; decide) (by rw [z9]; decide) (by rw [z9]; rfl) (by decide) ?_
        exact q_byteAt C (i5 := 5 * k) (by omega) rfl rfl rfl rfl (by omega) (by omega) h hl J
      by_cases z10 : v1 = 10
      · refine lv_tableIn (tgt := 620) hx hb dL_law_39 (by rw [z10]; decide) (by rw [z10]; decide) (by rw [z10]; rfl) (by decide) ?_
        exact q_taken C (i5 := 5 * k) (by omega) rfl rfl rfl rfl (by omega) (by omega) h hl J
      by_cases z11 : v1 = 11
      · refine lv_tableIn (tgt := 660) hx hb dL_law_39 (by rw [z11]; decide) (by rw [z11]; decide) (by rw [z11]; rfl) (by decide) ?_
        exact q_told C (i5 := 5 * k) (by omega) rfl rfl rfl rfl (by omega) (by omega) h hl J
      by_cases z12 : v1 = 12
      · refine lv_tableIn (tgt := 700) hx hb dL_law_39 (by rw [z12]; decide) (by rw [z12]; decide) (by rw [z12]; rfl) (by decide) ?_
        exact q_count C (i5 := 5 * k) (by omega) rfl rfl rfl rfl (by omega) (by omega) h hl J
      by_cases z13 : v1 = 13
      · refine lv_tableIn (tgt := 728) hx hb dL_law_39 (by rw [z13]; decide) (by rw [z13]; decide) (by rw [z13]; rfl) (by decide) ?_
        exact q_line C (i5 := 5 * k) (by omega) rfl rfl rfl rfl (by omega) (by omega) h hl J
      by_cases z14 : v1 = 14
      · refine lv_tableIn (tgt := 756) hx hb dL_law_39 (by rw [z14]; decide) (by rw [z14]; decide) (by rw [z14]; rfl) (by decide) ?_
        exact q_checks C (i5 := 5 * k) (by omega) rfl rfl rfl rfl (by omega) (by omega) h hl J
      refine lv_tableOut (tgt := 784) hx hb dL_law_39 (zswo (k := 14) (fun k9 hk => by match k9, hk with | 0, _ => exact z0 | 1, _ => exact z1 | 2, _ => exact z2 | 3, _ => exact z3 | 4, _ => exact z4 | 5, _ => exact z5 | 6, _ => exact z6 | 7, _ => exact z7 | 8, _ => exact z8 | 9, _ => exact z9 | 10, _ => exact z10 | 11, _ => exact z11 | 12, _ => exact z12 | 13, _ => exact z13 | 14, _ => exact z14 | k9 + 15, hk => exact absurd hk (by omega))) (by decide) ?_
      refine W.widen (k := c0 + 3 * k + 3) (n := s0 + 25 * k + 25) (by omega) (by omega) ?_
      exact J G1 S1 S2 H locs ls h hl
