theorem zin62 {id : Int32} (h0 : ¬ id < 0) (h1 : ¬ 62 ≤ id) : ∃ j : Nat, j < 62 ∧ id = nI j := by
  obtain ⟨j, hj, e⟩ := vp_in_of (zin (M := 62) (k := 62) (by decide) h0 h1) (by decide)
  exact ⟨j, hj, e⟩
theorem zfo_some {id : Int32} {y : Nat} {q : Nat → Option Nat} (h : (∃ j, j < 62 ∧ id = nI j ∧ some y = q j) ∨ ((id < 0 ∨ 62 ≤ id) ∧ some y = none)) : ∃ j, j < 62 ∧ id = nI j ∧ some y = q j := by
  rcases h with h | h
  · exact h
  · exact absurd h.2 (by simp)
set_option maxHeartbeats 4000000 in
set_option maxRecDepth 100000 in
theorem c_X6_frameOf (l : Launch) (dC : Nat → ClassId) (dI : Nat → Nat → Nat) (cy : Nat → ClassId) (G : zG) (S : zS) (sz : Nat) (x f n sc ia na d ka va : Nat) (id : Int32) (hX : zX G S x f n sc ia na d ka va) : Met l yX6_frameOf wsX6_frameOf ({ frames := 0, cells := 0, slots := 0, locals := 0 }) (zP dC dI cy [.ref x, .int id] G S sz) (va_Sq (fun r => (∃ j, j < 62 ∧ id = nI j ∧ r = S.2.2 f j) ∨ ((id < 0 ∨ 62 ≤ id) ∧ r = none))) 0 0 (fun _ => False) := by
  refine Met.ofW (cc := cX6_frameOf) (maxL := 2) (ret := (some (.object "LinCluster$Frame"))) (by decide) rfl ?_
  intro p e s m args below meth c s₁ B hml hv
  obtain ⟨rfl, hsz, hP, hK, hD0, hN⟩ := hv
  have hx := B.exec
  have hb := B.bytes
  have hr := B.returns
  have hts := atoms_spec (ws := wsX6_frameOf) B.pre
  have hown : s.vm.findClass RX6 = some m.cls := findClass_of_methodNamed B.named
  have hlocks := B.notSynchronized
  subst hsz
  have hD := hD0
  have hst := zSt.refl G S
  have hl := lv_entry ([.ref x, .int id]) (n := 2) (Nat.le_of_ble_eq_true rfl)
  rw [lg_entry_eq]
  generalize (lg_sl ([.ref x, .int id]) ++ List.replicate (2 - (lg_sl ([.ref x, .int id])).length) Slot.unset).toArray = ls at hl ⊢
  have hl : lv_has ls 2 [(0, .ref x), (1, .int id)] := hl
  have hi6 : ∀ w ∈ wsX60, w ∈ wsX6_frameOf := by decide +kernel
  obtain ⟨hx6, hq0, hq1, hq2, hq3, hFa, hNs, hSc, hDi, hRf⟩ := hX
  refine lv_iload_n hx hb dX6_frameOf_0 rfl (lv_at hl 1 rfl) ?_
  refine lv_if_lt (tgt := 22) hx hb dX6_frameOf_1 (by decide) (fun c1 => ?_) (fun c1 => ?_)
  · skip
    refine lv_null hx hb dX6_frameOf_22 ?_
    exact W.aret (v := .null) (rt := .object "LinCluster$Frame") hx hb hr (Or.inl ⟨_, rfl⟩) (Or.inl rfl) (fun t ht hW => ⟨none, rfl, (Or.inr ⟨Or.inl c1, rfl⟩), ht⟩) (fun _ h => absurd h List.not_mem_nil) dX6_frameOf_23
  · skip
    refine lv_iload_n hx hb dX6_frameOf_4 rfl (lv_at hl 1 rfl) ?_
    refine lv_aload_n hx hb dX6_frameOf_5 rfl (lv_at hl 0 rfl) ?_
    refine zget (ci := 6) (C := RX6) (T := TX6) (N := 7) hx hb hts hi6 hown hK hP hx6 rfl rfl 0 (by decide) (hts (.fieldLink RX6 11 "LinCluster" "frames" "[LLinCluster$Frame;") (by decide +kernel)) (fun _ h9 => h9) (v := .ref f) (congrArg (fun z => some (va_rf z)) (hst.q hx6.2 rfl hq0)) dX6_frameOf_6 ?_
    refine zfalen (v := 62) hx hb hK hP hFa.1 hFa.2.1 (by decide) dX6_frameOf_9 ?_
    refine lv_icmp_ge (tgt := 22) hx hb dX6_frameOf_10 (by decide) (fun c2 => ?_) (fun c2 => ?_)
    · skip
      refine lv_null hx hb dX6_frameOf_22 ?_
      exact W.aret (v := .null) (rt := .object "LinCluster$Frame") hx hb hr (Or.inl ⟨_, rfl⟩) (Or.inl rfl) (fun t ht hW => ⟨none, rfl, (Or.inr ⟨Or.inr c2, rfl⟩), ht⟩) (fun _ h => absurd h List.not_mem_nil) dX6_frameOf_23
    · skip
      obtain ⟨j8, hj8, rfl⟩ := zin62 c1 c2
      refine lv_aload_n hx hb dX6_frameOf_13 rfl (lv_at hl 0 rfl) ?_
      refine zget (ci := 6) (C := RX6) (T := TX6) (N := 7) hx hb hts hi6 hown hK hP hx6 rfl rfl 0 (by decide) (hts (.fieldLink RX6 11 "LinCluster" "frames" "[LLinCluster$Frame;") (by decide +kernel)) (fun _ h9 => h9) (v := .ref f) (congrArg (fun z => some (va_rf z)) (hst.q hx6.2 rfl hq0)) dX6_frameOf_14 ?_
      refine lv_iload_n hx hb dX6_frameOf_17 rfl (lv_at hl 1 rfl) ?_
      refine zfald hx hb hK hP hFa.1 hFa.2.1 (vp_in_nI (n := j8) (by omega) (by omega)) dX6_frameOf_18 ?_
      rw [nI_clamp (n := j8) (by omega)]
      rcases hq4 : S.2.2 f j8 with _ | y3
      · refine W.eq (g2 := F0 m 19 ls [.null]) rfl ?_
        refine lv_goto (tgt := 23) hx hb dX6_frameOf_19 (by decide) ?_
        exact W.aret (v := .null) (rt := .object "LinCluster$Frame") hx hb hr (Or.inl ⟨_, rfl⟩) (Or.inl rfl) (fun t ht hW => ⟨none, rfl, (Or.inl ⟨j8, hj8, rfl, hq4.symm⟩), ht⟩) (fun _ h => absurd h List.not_mem_nil) dX6_frameOf_23
      · refine W.eq (g2 := F0 m 19 ls [.ref y3]) rfl ?_
        refine lv_goto (tgt := 23) hx hb dX6_frameOf_19 (by decide) ?_
        exact W.aret (v := .ref y3) (rt := .object "LinCluster$Frame") hx hb hr (Or.inl ⟨_, rfl⟩) (Or.inr ⟨_, rfl⟩) (fun t ht hW => ⟨(some y3), rfl, (Or.inl ⟨j8, hj8, rfl, hq4.symm⟩), ht⟩) (fun _ h => absurd h List.not_mem_nil) dX6_frameOf_23
