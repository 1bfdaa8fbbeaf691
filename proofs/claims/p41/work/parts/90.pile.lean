-- Pile: a world is the object h (class 3: items, count) and its int array a
abbrev pl_W (h a : Nat) (cI : ClassId) (n : Nat) (f : Nat → Int32) (k : Int32) : va_W := [(h, .inr (3, [.ref a, .int k])), (a, .inl (cI, n, .inl f))]
abbrev pl_at (dC : Nat → ClassId) (dI : Nat → Nat → Nat) (A : Nat → Prop) (h a : Nat) (cI : ClassId) (n : Nat) (u : (Nat → Int32) × Int32) (t : State) : Prop := match u with
  | (f, k) => va_P (dC, dI) vwCl (pl_W h a cI n f k) t.heap ∧ va_K (dC, dI) vwCl [(cI, .int)] t ∧ va_D A (pl_W h a cI n f k)
set_option maxHeartbeats 4000000 in
set_option maxRecDepth 100000 in
/-- Pile.wipe(): the count is 0 -/
theorem c_X3_wipe (l : Launch) (dC : Nat → ClassId) (dI : Nat → Nat → Nat) (h a : Nat) (cI : ClassId) (n : Nat) (f : Nat → Int32) (k : Int32) (sz : Nat) : Met l yX3_wipe wsX3_wipe ({ frames := 0, cells := 0, slots := 0, locals := 0 }) (va_Pc [.ref h] (fun U => U.heap.size = sz ∧ va_P (dC, dI) vwCl (pl_W h a cI n f k) U.heap ∧ va_K (dC, dI) vwCl [(cI, .int)] U ∧ va_D (fun _ => True) (pl_W h a cI n f k))) (va_Qv (fun (u : (Nat → Int32) × Int32) => u = (f, 0)) (pl_at dC dI (va_A (pl_W h a cI n f k) sz) h a cI n) (va_A (pl_W h a cI n f k) sz)) 0 0 (va_A (pl_W h a cI n f k) sz) := by
  refine Met.ofW (cc := cX3_wipe) (maxL := 1) (ret := none) (by decide) rfl ?_
  intro p e s m args below meth c s₁ B hml hv
  obtain ⟨rfl, hsz, hP, hK, hD0⟩ := hv
  have hx := B.exec
  have hb := B.bytes
  have hr := B.returns
  have hts := atoms_spec (ws := wsX3_wipe) B.pre
  have hown : s.vm.findClass RX3 = some m.cls := findClass_of_methodNamed B.named
  have hlocks := B.notSynchronized
  subst hsz
  have hD := hD0.self (sz := s.heap.size)
  generalize hAe : va_A (pl_W h a cI n f k) s.heap.size = A at hD ⊢
  have hA : ∀ q : Nat, s.heap.size ≤ q → A q := fun q h => by rw [← hAe]; exact Or.inr h
  have hS : va_S A s.heap s.heap [] := va_S.rf
  have hl := lv_entry ([.ref h]) (n := 1) (Nat.le_of_ble_eq_true rfl)
  rw [lg_entry_eq]
  generalize (lg_sl ([.ref h]) ++ List.replicate (1 - (lg_sl ([.ref h])).length) Slot.unset).toArray = ls at hl ⊢
  have hl : lv_has ls 1 [(0, .ref h)] := hl
  refine lv_aload_n hx hb dX3_wipe_0 rfl (lv_at hl 0 rfl) ?_
  refine lv_iconst (v := 0) hx hb dX3_wipe_1 (by decide) ?_
  refine va_put (D := (dC, dI)) (ci := 3) (v := .int 0) (ty := .int) (C := RX3) (T := TX3) (N := 2) hx hb hts (by decide +kernel) tyX3 tyX3_ok nmX3 hown hK hP hD hS 0 rfl rfl 1 (by decide) (hts (.fieldLink RX3 15 "TypeScribe$Pile" "count" "I") (by decide +kernel)) (fun _ h9 => h9) rfl (by decide +kernel) rfl rfl (Nat.le_of_ble_eq_true rfl) dX3_wipe_2 (fun H locs hP hD hS => ?_)
  have hP : va_P (dC, dI) vwCl (pl_W h a cI n f 0) H := hP
  have hD : va_D A (pl_W h a cI n f 0) := hD
  exact W.vret hx hb hr (fun t ht hW => ⟨⟨(f, 0), rfl, rfl, by rw [ht]; exact hP, va_K.moved hW.alike hK, hD⟩, hS.F ht⟩) hS.2.2 dX3_wipe_5
set_option maxHeartbeats 4000000 in
set_option maxRecDepth 100000 in
/-- Pile.has(place) -/
theorem c_X3_has (l : Launch) (dC : Nat → ClassId) (dI : Nat → Nat → Nat) (h a : Nat) (cI : ClassId) (n : Nat) (f : Nat → Int32) (k : Int32) (sz : Nat) (i : Int32) : Met l yX3_has wsX3_has ({ frames := 0, cells := 0, slots := 0, locals := 0 }) (va_Pc [.ref h, .int i] (fun U => U.heap.size = sz ∧ va_P (dC, dI) vwCl (pl_W h a cI n f k) U.heap ∧ va_K (dC, dI) vwCl [(cI, .int)] U ∧ va_D (fun _ => True) (pl_W h a cI n f k))) (va_Qi (fun (r : Int32) (u : (Nat → Int32) × Int32) => r = (if i < 0 then 0 else if k ≤ i then 0 else 1) ∧ u = (f, k)) (pl_at dC dI (va_A (pl_W h a cI n f k) sz) h a cI n) (va_A (pl_W h a cI n f k) sz)) 0 0 (va_A (pl_W h a cI n f k) sz) := by
  refine Met.ofW (cc := cX3_has) (maxL := 2) (ret := (some .boolean)) (by decide) rfl ?_
  intro p e s m args below meth c s₁ B hml hv
  obtain ⟨rfl, hsz, hP, hK, hD0⟩ := hv
  have hx := B.exec
  have hb := B.bytes
  have hr := B.returns
  have hts := atoms_spec (ws := wsX3_has) B.pre
  have hown : s.vm.findClass RX3 = some m.cls := findClass_of_methodNamed B.named
  have hlocks := B.notSynchronized
  subst hsz
  have hD := hD0.self (sz := s.heap.size)
  generalize hAe : va_A (pl_W h a cI n f k) s.heap.size = A at hD ⊢
  have hA : ∀ q : Nat, s.heap.size ≤ q → A q := fun q h => by rw [← hAe]; exact Or.inr h
  have hS : va_S A s.heap s.heap [] := va_S.rf
  have hl := lv_entry ([.ref h, .int i]) (n := 2) (Nat.le_of_ble_eq_true rfl)
  rw [lg_entry_eq]
  generalize (lg_sl ([.ref h, .int i]) ++ List.replicate (2 - (lg_sl ([.ref h, .int i])).length) Slot.unset).toArray = ls at hl ⊢
  have hl : lv_has ls 2 [(0, .ref h), (1, .int i)] := hl
  refine lv_iload_n hx hb dX3_has_0 rfl (lv_at hl 1 rfl) ?_
  refine lv_if_lt (tgt := 16) hx hb dX3_has_1 (by decide) (fun b1 => ?_) (fun b1 => ?_)
  · refine lv_iconst (v := 0) hx hb dX3_has_16 (by decide) ?_
    exact W.zret (v := 0) hx hb hr (by decide) (fun t ht hW => ⟨⟨0, (f, k), rfl, ⟨by rw [if_pos b1], rfl⟩, by rw [ht]; exact hP, va_K.moved hW.alike hK, hD⟩, hS.F ht⟩) hS.2.2 dX3_has_17
  refine lv_iload_n hx hb dX3_has_4 rfl (lv_at hl 1 rfl) ?_
  refine lv_aload_n hx hb dX3_has_5 rfl (lv_at hl 0 rfl) ?_
  refine va_get (D := (dC, dI)) (ci := 3) (v := .int k) (C := RX3) (T := TX3) (N := 2) hx hb hts (by decide +kernel) hown hK hP 0 rfl rfl 1 (by decide) (hts (.fieldLink RX3 15 "TypeScribe$Pile" "count" "I") (by decide +kernel)) (fun _ h9 => h9) rfl dX3_has_6 ?_
  refine lv_icmp_ge (tgt := 16) hx hb dX3_has_9 (by decide) (fun b2 => ?_) (fun b2 => ?_)
  · refine lv_iconst (v := 0) hx hb dX3_has_16 (by decide) ?_
    exact W.zret (v := 0) hx hb hr (by decide) (fun t ht hW => ⟨⟨0, (f, k), rfl, ⟨by rw [if_neg b1, if_pos b2], rfl⟩, by rw [ht]; exact hP, va_K.moved hW.alike hK, hD⟩, hS.F ht⟩) hS.2.2 dX3_has_17
  refine lv_iconst (v := 1) hx hb dX3_has_12 (by decide) ?_
  refine lv_goto (tgt := 17) hx hb dX3_has_13 (by decide) ?_
  exact W.zret (v := 1) hx hb hr (by decide) (fun t ht hW => ⟨⟨1, (f, k), rfl, ⟨by rw [if_neg b1, if_neg b2], rfl⟩, by rw [ht]; exact hP, va_K.moved hW.alike hK, hD⟩, hS.F ht⟩) hS.2.2 dX3_has_17
