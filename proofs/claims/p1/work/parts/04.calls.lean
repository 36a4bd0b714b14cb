set_option maxHeartbeats 400000 in
set_option maxRecDepth 100000 in
theorem c_isWithin (l : Launch) (D : va_G) (cI cZ cB cO cJ : ClassId) (a0 : Nat) (sz : Nat) (v a b : Int32)  : Met l yX8_isWithin wsX8_isWithin ({ frames := 0, cells := 0, slots := 0, locals := 0 }) (Pcs D cI cZ cB cO cJ a0 [.int v, .int a, .int b] [] sz) (va_Qi (fun (r : Int32) (u : Unit) => r = wt v a b) (fun (u : Unit) t => va_P D vwCl [] t.heap ∧ va_D (va_A [] sz) []) (va_A [] sz)) 0 0 (va_A [] sz) := by
  refine Met.ofW (cc := cX8_isWithin) (maxL := 3) (ret := (some .boolean)) (by decide) rfl ?_
  intro p e s m args below meth c s₁ B hml hv
  obtain ⟨rfl, hsz, hP, hE, hD0, hZ⟩ := hv
  have hx := B.exec
  have hb := B.bytes
  have hr := B.returns
  have hts := atoms_spec (ws := wsX8_isWithin) B.pre
  have hown : s.vm.findClass RX8 = some m.cls := findClass_of_methodNamed B.named
  have hlocks := B.notSynchronized
  have hin := (name_of_methodNamed B.named B.method).1
  subst hsz
  have hD := hD0.self (sz := s.heap.size)
  generalize hAe : va_A [] s.heap.size = A at hD hZ ⊢
  have hA : ∀ q : Nat, s.heap.size ≤ q → A q := fun q h => by rw [← hAe]; exact Or.inr h
  have hS : va_S A s.heap s.heap [] := va_S.rf
  have hP : va_P D vwCl [] s.heap := hP
  have hl := lv_entry ([.int v, .int a, .int b]) (n := 3) (Nat.le_of_ble_eq_true rfl)
  rw [lg_entry_eq]
  generalize (lg_sl ([.int v, .int a, .int b]) ++ List.replicate (3 - (lg_sl ([.int v, .int a, .int b])).length) Slot.unset).toArray = ls at hl ⊢
  have hl : lv_has ls 3 [(0, .int v), (1, .int a), (2, .int b)] := hl
  refine lv_iload_n hx hb dX8_isWithin_0 rfl (lv_at hl 0 rfl) ?_
  refine lv_iload_n hx hb dX8_isWithin_1 rfl (lv_at hl 1 rfl) ?_
  refine lv_icmp_lt (tgt := 14) hx hb dX8_isWithin_2 (by decide) (fun ca => ?_) (fun ca => ?_)
  · refine lv_iconst (v := 0) hx hb dX8_isWithin_14 (by decide) ?_
    have hP9 := hP.sub (ws' := []) [] rfl
    have hD9 := hD.sub (ws' := []) [] (by decide) rfl
    exact ss_zret () hx hb hr hlocks (by decide) hP9 hD9 hS ((wt_0a ca).symm) (Nat.le_of_ble_eq_true rfl) (Nat.le_of_ble_eq_true rfl) dX8_isWithin_15
  · refine lv_iload_n hx hb dX8_isWithin_5 rfl (lv_at hl 0 rfl) ?_
    refine lv_iload_n hx hb dX8_isWithin_6 rfl (lv_at hl 2 rfl) ?_
    refine lv_icmp_gt (tgt := 14) hx hb dX8_isWithin_7 (by decide) (fun cb => ?_) (fun cb => ?_)
    · refine lv_iconst (v := 0) hx hb dX8_isWithin_14 (by decide) ?_
      have hP9 := hP.sub (ws' := []) [] rfl
      have hD9 := hD.sub (ws' := []) [] (by decide) rfl
      exact ss_zret () hx hb hr hlocks (by decide) hP9 hD9 hS ((wt_0b cb).symm) (Nat.le_of_ble_eq_true rfl) (Nat.le_of_ble_eq_true rfl) dX8_isWithin_15
    · refine lv_iconst (v := 1) hx hb dX8_isWithin_10 (by decide) ?_
      refine lv_goto (tgt := 15) hx hb dX8_isWithin_11 (by decide) ?_
      have hP9 := hP.sub (ws' := []) [] rfl
      have hD9 := hD.sub (ws' := []) [] (by decide) rfl
      exact ss_zret () hx hb hr hlocks (by decide) hP9 hD9 hS ((wt_1 ca cb).symm) (Nat.le_of_ble_eq_true rfl) (Nat.le_of_ble_eq_true rfl) dX8_isWithin_15

theorem im_X8_isBridge_X3 : ∀ w ∈ wsX30, w ∈ wsX8_isBridge := fun _ h => List.mem_cons_of_mem _ (List.mem_append_left _ (List.mem_append_right _ h))
theorem im_X8_isBridge_X8 : ∀ w ∈ wsX80, w ∈ wsX8_isBridge := fun _ h => List.mem_cons_of_mem _ (List.mem_append_left _ (List.mem_append_left _ (List.mem_append_right _ h)))
set_option maxHeartbeats 400000 in
set_option maxRecDepth 100000 in
theorem c_isBridge (l : Launch) (D : va_G) (cI cZ cB cO cJ : ClassId) (a0 : Nat) (sz : Nat) (rb rd tp rv sp td br sh ke tt : Nat) (b : Int32)  : Met l yX8_isBridge wsX8_isBridge ({ frames := 1, cells := 0, slots := 0, locals := 22 }) (Pcs D cI cZ cB cO cJ a0 [.ref rb, .int b] [(rb, .inr (9, [.ref rd, .ref tp, .ref rv, .ref sp, .int 0])), (rv, .inr (4, [.ref td, .ref br, .ref sh, .ref ke, .ref tt, .int 5, .int 0])), (br, .inr (0, [.int 0, .ref a0, .int 0]))] sz) (va_Qi (fun (r : Int32) (u : Unit) => r = 0) (fun (u : Unit) t => va_P D vwCl [(rb, .inr (9, [.ref rd, .ref tp, .ref rv, .ref sp, .int 0])), (rv, .inr (4, [.ref td, .ref br, .ref sh, .ref ke, .ref tt, .int 5, .int 0])), (br, .inr (0, [.int 0, .ref a0, .int 0]))] t.heap ∧ va_D (va_A [(rb, .inr (9, [.ref rd, .ref tp, .ref rv, .ref sp, .int 0])), (rv, .inr (4, [.ref td, .ref br, .ref sh, .ref ke, .ref tt, .int 5, .int 0])), (br, .inr (0, [.int 0, .ref a0, .int 0]))] sz) [(rb, .inr (9, [.ref rd, .ref tp, .ref rv, .ref sp, .int 0])), (rv, .inr (4, [.ref td, .ref br, .ref sh, .ref ke, .ref tt, .int 5, .int 0])), (br, .inr (0, [.int 0, .ref a0, .int 0]))]) (va_A [(rb, .inr (9, [.ref rd, .ref tp, .ref rv, .ref sp, .int 0])), (rv, .inr (4, [.ref td, .ref br, .ref sh, .ref ke, .ref tt, .int 5, .int 0])), (br, .inr (0, [.int 0, .ref a0, .int 0]))] sz)) 0 0 (va_A [(rb, .inr (9, [.ref rd, .ref tp, .ref rv, .ref sp, .int 0])), (rv, .inr (4, [.ref td, .ref br, .ref sh, .ref ke, .ref tt, .int 5, .int 0])), (br, .inr (0, [.int 0, .ref a0, .int 0]))] sz) := by
  refine Met.ofW (cc := cX8_isBridge) (maxL := 2) (ret := (some .boolean)) (by decide) rfl ?_
  intro p e s m args below meth c s₁ B hml hv
  obtain ⟨rfl, hsz, hP, hE, hD0, hZ⟩ := hv
  have hx := B.exec
  have hb := B.bytes
  have hr := B.returns
  have hts := atoms_spec (ws := wsX8_isBridge) B.pre
  have hown : s.vm.findClass RX8 = some m.cls := findClass_of_methodNamed B.named
  have hlocks := B.notSynchronized
  have hin := (name_of_methodNamed B.named B.method).1
  subst hsz
  have hD := hD0.self (sz := s.heap.size)
  generalize hAe : va_A [(rb, .inr (9, [.ref rd, .ref tp, .ref rv, .ref sp, .int 0])), (rv, .inr (4, [.ref td, .ref br, .ref sh, .ref ke, .ref tt, .int 5, .int 0])), (br, .inr (0, [.int 0, .ref a0, .int 0]))] s.heap.size = A at hD hZ ⊢
  have hA : ∀ q : Nat, s.heap.size ≤ q → A q := fun q h => by rw [← hAe]; exact Or.inr h
  have hS : va_S A s.heap s.heap [] := va_S.rf
  have hP : va_P D vwCl [(rb, .inr (9, [.ref rd, .ref tp, .ref rv, .ref sp, .int 0])), (rv, .inr (4, [.ref td, .ref br, .ref sh, .ref ke, .ref tt, .int 5, .int 0])), (br, .inr (0, [.int 0, .ref a0, .int 0]))] s.heap := hP
  have hl := lv_entry ([.ref rb, .int b]) (n := 2) (Nat.le_of_ble_eq_true rfl)
  rw [lg_entry_eq]
  generalize (lg_sl ([.ref rb, .int b]) ++ List.replicate (2 - (lg_sl ([.ref rb, .int b])).length) Slot.unset).toArray = ls at hl ⊢
  have hl : lv_has ls 2 [(0, .ref rb), (1, .int b)] := hl
  refine lv_iload_n hx hb dX8_isBridge_0 rfl (lv_at hl 1 rfl) ?_
  refine lv_iconst (v := 0) hx hb dX8_isBridge_1 (by decide) ?_
  refine lv_aload_n hx hb dX8_isBridge_2 rfl (lv_at hl 0 rfl) ?_
  refine va_get (D := D) (ci := 9) (v := .ref rv) (C := RX8) (T := TX8) (N := 5) hx hb hts im_X8_isBridge_X8 hown hE.1 hP 0 rfl rfl 2 (by decide) (hts (.fieldLink RX8 24 "RiverBridges" "river" "LRiverBridges$River;") (by decide +kernel)) (fun _ h9 => h9) rfl dX8_isBridge_3 ?_
  refine va_get (D := D) (ci := 4) (v := .ref br) (C := RX3) (T := TX3) (N := 7) hx hb hts im_X8_isBridge_X3 hown hE.1 hP 1 rfl rfl 1 (by decide) (hts (.fieldLink RX8 59 "RiverBridges$River" "bridges" "Ljava/util/ArrayList;") (by decide +kernel)) (fun _ h9 => h9) rfl dX8_isBridge_6 ?_
  refine ss_calli (ws := [(rb, .inr (9, [.ref rd, .ref tp, .ref rv, .ref sp, .int 0])), (rv, .inr (4, [.ref td, .ref br, .ref sh, .ref ke, .ref tt, .int 5, .int 0])), (br, .inr (0, [.int 0, .ref a0, .int 0]))]) (wc := [(br, .inr (0, [.int 0, .ref a0, .int 0]))]) (wr := [(rb, .inr (9, [.ref rd, .ref tp, .ref rv, .ref sp, .int 0])), (rv, .inr (4, [.ref td, .ref br, .ref sh, .ref ke, .ref tt, .int 5, .int 0]))]) [2] [0, 1] (va_runV (As := []) (rest := [.int 0, .int b]) ⟨hx, hb, hml, hown, hts⟩ (c_AL_size l D cI cZ cB cO cJ a0 s.heap.size br a0 0 0) (cwV 0 hts gX8_isBridge_Jx4a65c_size_8abf5 rfl rfl rfl (by decide +kernel) ⟨Nat.le_of_ble_eq_true rfl, Nat.le_of_ble_eq_true rfl⟩) (preV_std (wc := [(br, .inr (0, [.int 0, .ref a0, .int 0]))]) [2] hE hZ hA hS hP hD rfl (by decide) (fun h9 => va_recv hE.1 h9 (ci := 0) (q0 := 0) rfl rfl)) rfl rfl hl.1 rfl (lv_room (Nat.le_of_ble_eq_true rfl)) dX8_isBridge_9 ⟨Nat.le_of_ble_eq_true rfl, Nat.le_of_ble_eq_true rfl⟩) hP hD hS hA rfl rfl (by decide) (by decide) (fun r1 u H locs hw hP hD hS => ?_)
  try dsimp only at hw
  subst hw
  have hP : va_P D vwCl [(rb, .inr (9, [.ref rd, .ref tp, .ref rv, .ref sp, .int 0])), (rv, .inr (4, [.ref td, .ref br, .ref sh, .ref ke, .ref tt, .int 5, .int 0])), (br, .inr (0, [.int 0, .ref a0, .int 0]))] H := hP
  have hD : va_D A [(rb, .inr (9, [.ref rd, .ref tp, .ref rv, .ref sp, .int 0])), (rv, .inr (4, [.ref td, .ref br, .ref sh, .ref ke, .ref tt, .int 5, .int 0])), (br, .inr (0, [.int 0, .ref a0, .int 0]))] := hD
  refine lv_iconst (v := 1) hx hb dX8_isBridge_12 (by decide) ?_
  refine lx_isub (v := -1) hx hb (by decide) dX8_isBridge_13 ?_
  refine ss_calli (ws := [(rb, .inr (9, [.ref rd, .ref tp, .ref rv, .ref sp, .int 0])), (rv, .inr (4, [.ref td, .ref br, .ref sh, .ref ke, .ref tt, .int 5, .int 0])), (br, .inr (0, [.int 0, .ref a0, .int 0]))]) (wc := []) (wr := [(rb, .inr (9, [.ref rd, .ref tp, .ref rv, .ref sp, .int 0])), (rv, .inr (4, [.ref td, .ref br, .ref sh, .ref ke, .ref tt, .int 5, .int 0])), (br, .inr (0, [.int 0, .ref a0, .int 0]))]) [] [0, 1, 2] (va_runS (As := [.int b, .int 0, .int (-1)]) (rest := []) ⟨hx, hb, hml, hown, hts⟩ (c_isWithin l D cI cZ cB cO cJ a0 H.size b 0 (-1)) (cwS 3 hts gX8_isBridge_X8_isWithin rfl rfl rfl (by decide +kernel) ⟨Nat.le_of_ble_eq_true rfl, Nat.le_of_ble_eq_true rfl⟩) (preS_std (wc := []) [] hE hZ hA hS hP hD rfl (by decide)) rfl rfl hl.1 rfl (lv_room (Nat.le_of_ble_eq_true rfl)) dX8_isBridge_14 ⟨Nat.le_of_ble_eq_true rfl, Nat.le_of_ble_eq_true rfl⟩) hP hD hS hA rfl rfl (by decide) (by decide) (fun r2 u H locs hw hP hD hS => ?_)
  try dsimp only at hw
  subst hw
  have hw9 : wt b 0 (-1) = 0 := wt_m1 b
  rw [hw9]
  have hP : va_P D vwCl [(rb, .inr (9, [.ref rd, .ref tp, .ref rv, .ref sp, .int 0])), (rv, .inr (4, [.ref td, .ref br, .ref sh, .ref ke, .ref tt, .int 5, .int 0])), (br, .inr (0, [.int 0, .ref a0, .int 0]))] H := hP
  have hD : va_D A [(rb, .inr (9, [.ref rd, .ref tp, .ref rv, .ref sp, .int 0])), (rv, .inr (4, [.ref td, .ref br, .ref sh, .ref ke, .ref tt, .int 5, .int 0])), (br, .inr (0, [.int 0, .ref a0, .int 0]))] := hD
  have hP9 := hP.sub (ws' := [(rb, .inr (9, [.ref rd, .ref tp, .ref rv, .ref sp, .int 0])), (rv, .inr (4, [.ref td, .ref br, .ref sh, .ref ke, .ref tt, .int 5, .int 0])), (br, .inr (0, [.int 0, .ref a0, .int 0]))]) [0, 1, 2] rfl
  have hD9 := hD.sub (ws' := [(rb, .inr (9, [.ref rd, .ref tp, .ref rv, .ref sp, .int 0])), (rv, .inr (4, [.ref td, .ref br, .ref sh, .ref ke, .ref tt, .int 5, .int 0])), (br, .inr (0, [.int 0, .ref a0, .int 0]))]) [0, 1, 2] (by decide) rfl
  exact ss_zret () hx hb hr hlocks (by decide) hP9 hD9 hS (rfl) (Nat.le_of_ble_eq_true rfl) (Nat.le_of_ble_eq_true rfl) dX8_isBridge_17

theorem im_X8_isShip_X3 : ∀ w ∈ wsX30, w ∈ wsX8_isShip := fun _ h => List.mem_cons_of_mem _ (List.mem_append_left _ (List.mem_append_right _ h))
theorem im_X8_isShip_X8 : ∀ w ∈ wsX80, w ∈ wsX8_isShip := fun _ h => List.mem_cons_of_mem _ (List.mem_append_left _ (List.mem_append_left _ (List.mem_append_right _ h)))
set_option maxHeartbeats 400000 in
set_option maxRecDepth 100000 in
theorem c_isShip (l : Launch) (D : va_G) (cI cZ cB cO cJ : ClassId) (a0 : Nat) (sz : Nat) (rb rd tp rv sp td br sh ke tt : Nat) (b : Int32)  : Met l yX8_isShip wsX8_isShip ({ frames := 1, cells := 0, slots := 0, locals := 22 }) (Pcs D cI cZ cB cO cJ a0 [.ref rb, .int b] [(rb, .inr (9, [.ref rd, .ref tp, .ref rv, .ref sp, .int 0])), (rv, .inr (4, [.ref td, .ref br, .ref sh, .ref ke, .ref tt, .int 5, .int 0])), (sh, .inr (0, [.int 0, .ref a0, .int 0]))] sz) (va_Qi (fun (r : Int32) (u : Unit) => r = 0) (fun (u : Unit) t => va_P D vwCl [(rb, .inr (9, [.ref rd, .ref tp, .ref rv, .ref sp, .int 0])), (rv, .inr (4, [.ref td, .ref br, .ref sh, .ref ke, .ref tt, .int 5, .int 0])), (sh, .inr (0, [.int 0, .ref a0, .int 0]))] t.heap ∧ va_D (va_A [(rb, .inr (9, [.ref rd, .ref tp, .ref rv, .ref sp, .int 0])), (rv, .inr (4, [.ref td, .ref br, .ref sh, .ref ke, .ref tt, .int 5, .int 0])), (sh, .inr (0, [.int 0, .ref a0, .int 0]))] sz) [(rb, .inr (9, [.ref rd, .ref tp, .ref rv, .ref sp, .int 0])), (rv, .inr (4, [.ref td, .ref br, .ref sh, .ref ke, .ref tt, .int 5, .int 0])), (sh, .inr (0, [.int 0, .ref a0, .int 0]))]) (va_A [(rb, .inr (9, [.ref rd, .ref tp, .ref rv, .ref sp, .int 0])), (rv, .inr (4, [.ref td, .ref br, .ref sh, .ref ke, .ref tt, .int 5, .int 0])), (sh, .inr (0, [.int 0, .ref a0, .int 0]))] sz)) 0 0 (va_A [(rb, .inr (9, [.ref rd, .ref tp, .ref rv, .ref sp, .int 0])), (rv, .inr (4, [.ref td, .ref br, .ref sh, .ref ke, .ref tt, .int 5, .int 0])), (sh, .inr (0, [.int 0, .ref a0, .int 0]))] sz) := by
  refine Met.ofW (cc := cX8_isShip) (maxL := 2) (ret := (some .boolean)) (by decide) rfl ?_
  intro p e s m args below meth c s₁ B hml hv
  obtain ⟨rfl, hsz, hP, hE, hD0, hZ⟩ := hv
  have hx := B.exec
  have hb := B.bytes
  have hr := B.returns
  have hts := atoms_spec (ws := wsX8_isShip) B.pre
  have hown : s.vm.findClass RX8 = some m.cls := findClass_of_methodNamed B.named
  have hlocks := B.notSynchronized
  have hin := (name_of_methodNamed B.named B.method).1
  subst hsz
  have hD := hD0.self (sz := s.heap.size)
  generalize hAe : va_A [(rb, .inr (9, [.ref rd, .ref tp, .ref rv, .ref sp, .int 0])), (rv, .inr (4, [.ref td, .ref br, .ref sh, .ref ke, .ref tt, .int 5, .int 0])), (sh, .inr (0, [.int 0, .ref a0, .int 0]))] s.heap.size = A at hD hZ ⊢
  have hA : ∀ q : Nat, s.heap.size ≤ q → A q := fun q h => by rw [← hAe]; exact Or.inr h
  have hS : va_S A s.heap s.heap [] := va_S.rf
  have hP : va_P D vwCl [(rb, .inr (9, [.ref rd, .ref tp, .ref rv, .ref sp, .int 0])), (rv, .inr (4, [.ref td, .ref br, .ref sh, .ref ke, .ref tt, .int 5, .int 0])), (sh, .inr (0, [.int 0, .ref a0, .int 0]))] s.heap := hP
  have hl := lv_entry ([.ref rb, .int b]) (n := 2) (Nat.le_of_ble_eq_true rfl)
  rw [lg_entry_eq]
  generalize (lg_sl ([.ref rb, .int b]) ++ List.replicate (2 - (lg_sl ([.ref rb, .int b])).length) Slot.unset).toArray = ls at hl ⊢
  have hl : lv_has ls 2 [(0, .ref rb), (1, .int b)] := hl
  refine lv_iload_n hx hb dX8_isShip_0 rfl (lv_at hl 1 rfl) ?_
  refine lv_iconst (v := 0) hx hb dX8_isShip_1 (by decide) ?_
  refine lv_aload_n hx hb dX8_isShip_2 rfl (lv_at hl 0 rfl) ?_
  refine va_get (D := D) (ci := 9) (v := .ref rv) (C := RX8) (T := TX8) (N := 5) hx hb hts im_X8_isShip_X8 hown hE.1 hP 0 rfl rfl 2 (by decide) (hts (.fieldLink RX8 24 "RiverBridges" "river" "LRiverBridges$River;") (by decide +kernel)) (fun _ h9 => h9) rfl dX8_isShip_3 ?_
  refine va_get (D := D) (ci := 4) (v := .ref sh) (C := RX3) (T := TX3) (N := 7) hx hb hts im_X8_isShip_X3 hown hE.1 hP 1 rfl rfl 2 (by decide) (hts (.fieldLink RX8 118 "RiverBridges$River" "ships" "Ljava/util/ArrayList;") (by decide +kernel)) (fun _ h9 => h9) rfl dX8_isShip_6 ?_
  refine ss_calli (ws := [(rb, .inr (9, [.ref rd, .ref tp, .ref rv, .ref sp, .int 0])), (rv, .inr (4, [.ref td, .ref br, .ref sh, .ref ke, .ref tt, .int 5, .int 0])), (sh, .inr (0, [.int 0, .ref a0, .int 0]))]) (wc := [(sh, .inr (0, [.int 0, .ref a0, .int 0]))]) (wr := [(rb, .inr (9, [.ref rd, .ref tp, .ref rv, .ref sp, .int 0])), (rv, .inr (4, [.ref td, .ref br, .ref sh, .ref ke, .ref tt, .int 5, .int 0]))]) [2] [0, 1] (va_runV (As := []) (rest := [.int 0, .int b]) ⟨hx, hb, hml, hown, hts⟩ (c_AL_size l D cI cZ cB cO cJ a0 s.heap.size sh a0 0 0) (cwV 0 hts gX8_isShip_Jx4a65c_size_8abf5 rfl rfl rfl (by decide +kernel) ⟨Nat.le_of_ble_eq_true rfl, Nat.le_of_ble_eq_true rfl⟩) (preV_std (wc := [(sh, .inr (0, [.int 0, .ref a0, .int 0]))]) [2] hE hZ hA hS hP hD rfl (by decide) (fun h9 => va_recv hE.1 h9 (ci := 0) (q0 := 0) rfl rfl)) rfl rfl hl.1 rfl (lv_room (Nat.le_of_ble_eq_true rfl)) dX8_isShip_9 ⟨Nat.le_of_ble_eq_true rfl, Nat.le_of_ble_eq_true rfl⟩) hP hD hS hA rfl rfl (by decide) (by decide) (fun r1 u H locs hw hP hD hS => ?_)
  try dsimp only at hw
  subst hw
  have hP : va_P D vwCl [(rb, .inr (9, [.ref rd, .ref tp, .ref rv, .ref sp, .int 0])), (rv, .inr (4, [.ref td, .ref br, .ref sh, .ref ke, .ref tt, .int 5, .int 0])), (sh, .inr (0, [.int 0, .ref a0, .int 0]))] H := hP
  have hD : va_D A [(rb, .inr (9, [.ref rd, .ref tp, .ref rv, .ref sp, .int 0])), (rv, .inr (4, [.ref td, .ref br, .ref sh, .ref ke, .ref tt, .int 5, .int 0])), (sh, .inr (0, [.int 0, .ref a0, .int 0]))] := hD
  refine lv_iconst (v := 1) hx hb dX8_isShip_12 (by decide) ?_
  refine lx_isub (v := -1) hx hb (by decide) dX8_isShip_13 ?_
  refine ss_calli (ws := [(rb, .inr (9, [.ref rd, .ref tp, .ref rv, .ref sp, .int 0])), (rv, .inr (4, [.ref td, .ref br, .ref sh, .ref ke, .ref tt, .int 5, .int 0])), (sh, .inr (0, [.int 0, .ref a0, .int 0]))]) (wc := []) (wr := [(rb, .inr (9, [.ref rd, .ref tp, .ref rv, .ref sp, .int 0])), (rv, .inr (4, [.ref td, .ref br, .ref sh, .ref ke, .ref tt, .int 5, .int 0])), (sh, .inr (0, [.int 0, .ref a0, .int 0]))]) [] [0, 1, 2] (va_runS (As := [.int b, .int 0, .int (-1)]) (rest := []) ⟨hx, hb, hml, hown, hts⟩ (c_isWithin l D cI cZ cB cO cJ a0 H.size b 0 (-1)) (cwS 3 hts gX8_isShip_X8_isWithin rfl rfl rfl (by decide +kernel) ⟨Nat.le_of_ble_eq_true rfl, Nat.le_of_ble_eq_true rfl⟩) (preS_std (wc := []) [] hE hZ hA hS hP hD rfl (by decide)) rfl rfl hl.1 rfl (lv_room (Nat.le_of_ble_eq_true rfl)) dX8_isShip_14 ⟨Nat.le_of_ble_eq_true rfl, Nat.le_of_ble_eq_true rfl⟩) hP hD hS hA rfl rfl (by decide) (by decide) (fun r2 u H locs hw hP hD hS => ?_)
  try dsimp only at hw
  subst hw
  have hw9 : wt b 0 (-1) = 0 := wt_m1 b
  rw [hw9]
  have hP : va_P D vwCl [(rb, .inr (9, [.ref rd, .ref tp, .ref rv, .ref sp, .int 0])), (rv, .inr (4, [.ref td, .ref br, .ref sh, .ref ke, .ref tt, .int 5, .int 0])), (sh, .inr (0, [.int 0, .ref a0, .int 0]))] H := hP
  have hD : va_D A [(rb, .inr (9, [.ref rd, .ref tp, .ref rv, .ref sp, .int 0])), (rv, .inr (4, [.ref td, .ref br, .ref sh, .ref ke, .ref tt, .int 5, .int 0])), (sh, .inr (0, [.int 0, .ref a0, .int 0]))] := hD
  have hP9 := hP.sub (ws' := [(rb, .inr (9, [.ref rd, .ref tp, .ref rv, .ref sp, .int 0])), (rv, .inr (4, [.ref td, .ref br, .ref sh, .ref ke, .ref tt, .int 5, .int 0])), (sh, .inr (0, [.int 0, .ref a0, .int 0]))]) [0, 1, 2] rfl
  have hD9 := hD.sub (ws' := [(rb, .inr (9, [.ref rd, .ref tp, .ref rv, .ref sp, .int 0])), (rv, .inr (4, [.ref td, .ref br, .ref sh, .ref ke, .ref tt, .int 5, .int 0])), (sh, .inr (0, [.int 0, .ref a0, .int 0]))]) [0, 1, 2] (by decide) rfl
  exact ss_zret () hx hb hr hlocks (by decide) hP9 hD9 hS (rfl) (Nat.le_of_ble_eq_true rfl) (Nat.le_of_ble_eq_true rfl) dX8_isShip_17

theorem im_X8_feed_X5 : ∀ w ∈ wsX50, w ∈ wsX8_feed := fun _ h => List.mem_cons_of_mem _ (List.mem_append_right _ h)
theorem im_X8_feed_X8 : ∀ w ∈ wsX80, w ∈ wsX8_feed := fun _ h => List.mem_cons_of_mem _ (List.mem_append_left _ (List.mem_append_right _ h))
set_option maxHeartbeats 400000 in
set_option maxRecDepth 100000 in
theorem c_feed (l : Launch) (D : va_G) (cI cZ cB cO cJ : ClassId) (a0 : Nat) (sz : Nat) (rb rd tp bt rv sp : Nat) (a1 a2 a3 a4 a5 : Int32)  : Met l yX8_feed wsX8_feed ({ frames := 1, cells := 0, slots := 0, locals := 22 }) (Pcs D cI cZ cB cO cJ a0 [.ref rb, .int a1, .int a2, .int a3, .int a4, .int a5] [(rb, .inr (9, [.ref rd, .ref tp, .ref rv, .ref sp, .int 0])), (tp, .inr (6, [.ref bt, .int 0])), (bt, .inl (cI, 440, .inl (fun _ => 0)))] sz) (va_Qi (fun (r : Int32) (u : Unit) => r = 20) (fun (u : Unit) t => va_P D vwCl [] t.heap ∧ va_D (va_A [(rb, .inr (9, [.ref rd, .ref tp, .ref rv, .ref sp, .int 0])), (tp, .inr (6, [.ref bt, .int 0])), (bt, .inl (cI, 440, .inl (fun _ => 0)))] sz) []) (va_A [(rb, .inr (9, [.ref rd, .ref tp, .ref rv, .ref sp, .int 0])), (tp, .inr (6, [.ref bt, .int 0])), (bt, .inl (cI, 440, .inl (fun _ => 0)))] sz)) 0 0 (va_A [(rb, .inr (9, [.ref rd, .ref tp, .ref rv, .ref sp, .int 0])), (tp, .inr (6, [.ref bt, .int 0])), (bt, .inl (cI, 440, .inl (fun _ => 0)))] sz) := by
  refine Met.ofW (cc := cX8_feed) (maxL := 6) (ret := (some .int)) (by decide) rfl ?_
  intro p e s m args below meth c s₁ B hml hv
  obtain ⟨rfl, hsz, hP, hE, hD0, hZ⟩ := hv
  have hx := B.exec
  have hb := B.bytes
  have hr := B.returns
  have hts := atoms_spec (ws := wsX8_feed) B.pre
  have hown : s.vm.findClass RX8 = some m.cls := findClass_of_methodNamed B.named
  have hlocks := B.notSynchronized
  have hin := (name_of_methodNamed B.named B.method).1
  subst hsz
  have hD := hD0.self (sz := s.heap.size)
  generalize hAe : va_A [(rb, .inr (9, [.ref rd, .ref tp, .ref rv, .ref sp, .int 0])), (tp, .inr (6, [.ref bt, .int 0])), (bt, .inl (cI, 440, .inl (fun _ => 0)))] s.heap.size = A at hD hZ ⊢
  have hA : ∀ q : Nat, s.heap.size ≤ q → A q := fun q h => by rw [← hAe]; exact Or.inr h
  have hS : va_S A s.heap s.heap [] := va_S.rf
  have hP : va_P D vwCl [(rb, .inr (9, [.ref rd, .ref tp, .ref rv, .ref sp, .int 0])), (tp, .inr (6, [.ref bt, .int 0])), (bt, .inl (cI, 440, .inl (fun _ => 0)))] s.heap := hP
  have hl := lv_entry ([.ref rb, .int a1, .int a2, .int a3, .int a4, .int a5]) (n := 6) (Nat.le_of_ble_eq_true rfl)
  rw [lg_entry_eq]
  generalize (lg_sl ([.ref rb, .int a1, .int a2, .int a3, .int a4, .int a5]) ++ List.replicate (6 - (lg_sl ([.ref rb, .int a1, .int a2, .int a3, .int a4, .int a5])).length) Slot.unset).toArray = ls at hl ⊢
  have hl : lv_has ls 6 [(0, .ref rb), (1, .int a1), (2, .int a2), (3, .int a3), (4, .int a4), (5, .int a5)] := hl
  refine lv_aload_n hx hb dX8_feed_0 rfl (lv_at hl 0 rfl) ?_
  refine va_get (D := D) (ci := 9) (v := .ref tp) (C := RX8) (T := TX8) (N := 5) hx hb hts im_X8_feed_X8 hown hE.1 hP 0 rfl rfl 1 (by decide) (hts (.fieldLink RX8 20 "RiverBridges" "tape" "LRiverBridges$Tape;") (by decide +kernel)) (fun _ h9 => h9) rfl dX8_feed_1 ?_
  refine ss_calli (ws := [(rb, .inr (9, [.ref rd, .ref tp, .ref rv, .ref sp, .int 0])), (tp, .inr (6, [.ref bt, .int 0])), (bt, .inl (cI, 440, .inl (fun _ => 0)))]) (wc := [(tp, .inr (6, [.ref bt, .int 0]))]) (wr := [(rb, .inr (9, [.ref rd, .ref tp, .ref rv, .ref sp, .int 0])), (bt, .inl (cI, 440, .inl (fun _ => 0)))]) [1] [0, 2] (va_runV (As := []) (rest := []) ⟨hx, hb, hml, hown, hts⟩ (c_Tape_room l D cI cZ cB cO cJ a0 s.heap.size tp bt) (cwV 0 hts gX8_feed_X5_hasRoomForFive rfl rfl rfl (by decide +kernel) ⟨Nat.le_of_ble_eq_true rfl, Nat.le_of_ble_eq_true rfl⟩) (preV_std (wc := [(tp, .inr (6, [.ref bt, .int 0]))]) [1] hE hZ hA hS hP hD rfl (by decide) (fun h9 => va_recv hE.1 h9 (ci := 6) (q0 := 0) rfl rfl)) rfl rfl hl.1 rfl (lv_room (Nat.le_of_ble_eq_true rfl)) dX8_feed_4 ⟨Nat.le_of_ble_eq_true rfl, Nat.le_of_ble_eq_true rfl⟩) hP hD hS hA rfl rfl (by decide) (by decide) (fun r1 u H locs hw hP hD hS => ?_)
  try dsimp only at hw
  subst hw
  have hP : va_P D vwCl [(rb, .inr (9, [.ref rd, .ref tp, .ref rv, .ref sp, .int 0])), (bt, .inl (cI, 440, .inl (fun _ => 0))), (tp, .inr (6, [.ref bt, .int 0]))] H := hP
  have hD : va_D A [(rb, .inr (9, [.ref rd, .ref tp, .ref rv, .ref sp, .int 0])), (bt, .inl (cI, 440, .inl (fun _ => 0))), (tp, .inr (6, [.ref bt, .int 0]))] := hD
  refine lv_if_ne (tgt := 12) hx hb dX8_feed_7 (by decide) (fun _ => ?_) (fun c9 => absurd c9 (by decide))
  refine lv_aload_n hx hb dX8_feed_12 rfl (lv_at hl 0 rfl) ?_
  refine va_get (D := D) (ci := 9) (v := .ref tp) (C := RX8) (T := TX8) (N := 5) hx hb hts im_X8_feed_X8 hown hE.1 hP 0 rfl rfl 1 (by decide) (hts (.fieldLink RX8 20 "RiverBridges" "tape" "LRiverBridges$Tape;") (by decide +kernel)) (fun _ h9 => h9) rfl dX8_feed_13 ?_
  refine lv_iload_n hx hb dX8_feed_16 rfl (lv_at hl 1 rfl) ?_
  refine ss_callv (ws := [(rb, .inr (9, [.ref rd, .ref tp, .ref rv, .ref sp, .int 0])), (bt, .inl (cI, 440, .inl (fun _ => 0))), (tp, .inr (6, [.ref bt, .int 0]))]) (wc := [(tp, .inr (6, [.ref bt, .int 0])), (bt, .inl (cI, 440, .inl (fun _ => 0)))]) (wr := [(rb, .inr (9, [.ref rd, .ref tp, .ref rv, .ref sp, .int 0]))]) [2, 1] [0] (va_runV (As := [.int a1]) (rest := []) ⟨hx, hb, hml, hown, hts⟩ (c_Tape_append l D cI cZ cB cO cJ a0 H.size tp bt 0 (fun _ => 0) a1 (by omega)) (cwV 1 hts gX8_feed_X5_append rfl rfl rfl (by decide +kernel) ⟨Nat.le_of_ble_eq_true rfl, Nat.le_of_ble_eq_true rfl⟩) (preV_std (wc := [(tp, .inr (6, [.ref bt, .int 0])), (bt, .inl (cI, 440, .inl (fun _ => 0)))]) [2, 1] hE hZ hA hS hP hD rfl (by decide) (fun h9 => va_recv hE.1 h9 (ci := 6) (q0 := 0) rfl rfl)) rfl rfl hl.1 rfl (lv_room (Nat.le_of_ble_eq_true rfl)) dX8_feed_17 ⟨Nat.le_of_ble_eq_true rfl, Nat.le_of_ble_eq_true rfl⟩) hP hD hS hA rfl rfl (by decide) (by decide) (fun u H locs hw hP hD hS => ?_)
  obtain ⟨fa1, rfl⟩ : ∃ z, z = u := ⟨_, rfl⟩
  try dsimp only at hw
  have hP : va_P D vwCl [(rb, .inr (9, [.ref rd, .ref tp, .ref rv, .ref sp, .int 0])), (tp, .inr (6, [.ref bt, .int (nI 4)])), (bt, .inl (cI, 440, .inl fa1))] H := hP
  have hD : va_D A [(rb, .inr (9, [.ref rd, .ref tp, .ref rv, .ref sp, .int 0])), (tp, .inr (6, [.ref bt, .int (nI 4)])), (bt, .inl (cI, 440, .inl fa1))] := hD
  refine lv_aload_n hx hb dX8_feed_20 rfl (lv_at hl 0 rfl) ?_
  refine va_get (D := D) (ci := 9) (v := .ref tp) (C := RX8) (T := TX8) (N := 5) hx hb hts im_X8_feed_X8 hown hE.1 hP 0 rfl rfl 1 (by decide) (hts (.fieldLink RX8 20 "RiverBridges" "tape" "LRiverBridges$Tape;") (by decide +kernel)) (fun _ h9 => h9) rfl dX8_feed_21 ?_
  refine lv_iload_n hx hb dX8_feed_24 rfl (lv_at hl 2 rfl) ?_
  refine ss_callv (ws := [(rb, .inr (9, [.ref rd, .ref tp, .ref rv, .ref sp, .int 0])), (tp, .inr (6, [.ref bt, .int (nI 4)])), (bt, .inl (cI, 440, .inl fa1))]) (wc := [(tp, .inr (6, [.ref bt, .int (nI 4)])), (bt, .inl (cI, 440, .inl fa1))]) (wr := [(rb, .inr (9, [.ref rd, .ref tp, .ref rv, .ref sp, .int 0]))]) [1, 2] [0] (va_runV (As := [.int a2]) (rest := []) ⟨hx, hb, hml, hown, hts⟩ (c_Tape_append l D cI cZ cB cO cJ a0 H.size tp bt 4 fa1 a2 (by omega)) (cwV 1 hts gX8_feed_X5_append rfl rfl rfl (by decide +kernel) ⟨Nat.le_of_ble_eq_true rfl, Nat.le_of_ble_eq_true rfl⟩) (preV_std (wc := [(tp, .inr (6, [.ref bt, .int (nI 4)])), (bt, .inl (cI, 440, .inl fa1))]) [1, 2] hE hZ hA hS hP hD rfl (by decide) (fun h9 => va_recv hE.1 h9 (ci := 6) (q0 := 0) rfl rfl)) rfl rfl hl.1 rfl (lv_room (Nat.le_of_ble_eq_true rfl)) dX8_feed_25 ⟨Nat.le_of_ble_eq_true rfl, Nat.le_of_ble_eq_true rfl⟩) hP hD hS hA rfl rfl (by decide) (by decide) (fun u H locs hw hP hD hS => ?_)
  obtain ⟨fa2, rfl⟩ : ∃ z, z = u := ⟨_, rfl⟩
  try dsimp only at hw
  have hP : va_P D vwCl [(rb, .inr (9, [.ref rd, .ref tp, .ref rv, .ref sp, .int 0])), (tp, .inr (6, [.ref bt, .int (nI 8)])), (bt, .inl (cI, 440, .inl fa2))] H := hP
  have hD : va_D A [(rb, .inr (9, [.ref rd, .ref tp, .ref rv, .ref sp, .int 0])), (tp, .inr (6, [.ref bt, .int (nI 8)])), (bt, .inl (cI, 440, .inl fa2))] := hD
  refine lv_aload_n hx hb dX8_feed_28 rfl (lv_at hl 0 rfl) ?_
  refine va_get (D := D) (ci := 9) (v := .ref tp) (C := RX8) (T := TX8) (N := 5) hx hb hts im_X8_feed_X8 hown hE.1 hP 0 rfl rfl 1 (by decide) (hts (.fieldLink RX8 20 "RiverBridges" "tape" "LRiverBridges$Tape;") (by decide +kernel)) (fun _ h9 => h9) rfl dX8_feed_29 ?_
  refine lv_iload_n hx hb dX8_feed_32 rfl (lv_at hl 3 rfl) ?_
  refine ss_callv (ws := [(rb, .inr (9, [.ref rd, .ref tp, .ref rv, .ref sp, .int 0])), (tp, .inr (6, [.ref bt, .int (nI 8)])), (bt, .inl (cI, 440, .inl fa2))]) (wc := [(tp, .inr (6, [.ref bt, .int (nI 8)])), (bt, .inl (cI, 440, .inl fa2))]) (wr := [(rb, .inr (9, [.ref rd, .ref tp, .ref rv, .ref sp, .int 0]))]) [1, 2] [0] (va_runV (As := [.int a3]) (rest := []) ⟨hx, hb, hml, hown, hts⟩ (c_Tape_append l D cI cZ cB cO cJ a0 H.size tp bt 8 fa2 a3 (by omega)) (cwV 1 hts gX8_feed_X5_append rfl rfl rfl (by decide +kernel) ⟨Nat.le_of_ble_eq_true rfl, Nat.le_of_ble_eq_true rfl⟩) (preV_std (wc := [(tp, .inr (6, [.ref bt, .int (nI 8)])), (bt, .inl (cI, 440, .inl fa2))]) [1, 2] hE hZ hA hS hP hD rfl (by decide) (fun h9 => va_recv hE.1 h9 (ci := 6) (q0 := 0) rfl rfl)) rfl rfl hl.1 rfl (lv_room (Nat.le_of_ble_eq_true rfl)) dX8_feed_33 ⟨Nat.le_of_ble_eq_true rfl, Nat.le_of_ble_eq_true rfl⟩) hP hD hS hA rfl rfl (by decide) (by decide) (fun u H locs hw hP hD hS => ?_)
  obtain ⟨fa3, rfl⟩ : ∃ z, z = u := ⟨_, rfl⟩
  try dsimp only at hw
  have hP : va_P D vwCl [(rb, .inr (9, [.ref rd, .ref tp, .ref rv, .ref sp, .int 0])), (tp, .inr (6, [.ref bt, .int (nI 12)])), (bt, .inl (cI, 440, .inl fa3))] H := hP
  have hD : va_D A [(rb, .inr (9, [.ref rd, .ref tp, .ref rv, .ref sp, .int 0])), (tp, .inr (6, [.ref bt, .int (nI 12)])), (bt, .inl (cI, 440, .inl fa3))] := hD
  refine lv_aload_n hx hb dX8_feed_36 rfl (lv_at hl 0 rfl) ?_
  refine va_get (D := D) (ci := 9) (v := .ref tp) (C := RX8) (T := TX8) (N := 5) hx hb hts im_X8_feed_X8 hown hE.1 hP 0 rfl rfl 1 (by decide) (hts (.fieldLink RX8 20 "RiverBridges" "tape" "LRiverBridges$Tape;") (by decide +kernel)) (fun _ h9 => h9) rfl dX8_feed_37 ?_
  refine lv_iload hx hb dX8_feed_40 (lv_at hl 4 rfl) ?_
  refine ss_callv (ws := [(rb, .inr (9, [.ref rd, .ref tp, .ref rv, .ref sp, .int 0])), (tp, .inr (6, [.ref bt, .int (nI 12)])), (bt, .inl (cI, 440, .inl fa3))]) (wc := [(tp, .inr (6, [.ref bt, .int (nI 12)])), (bt, .inl (cI, 440, .inl fa3))]) (wr := [(rb, .inr (9, [.ref rd, .ref tp, .ref rv, .ref sp, .int 0]))]) [1, 2] [0] (va_runV (As := [.int a4]) (rest := []) ⟨hx, hb, hml, hown, hts⟩ (c_Tape_append l D cI cZ cB cO cJ a0 H.size tp bt 12 fa3 a4 (by omega)) (cwV 1 hts gX8_feed_X5_append rfl rfl rfl (by decide +kernel) ⟨Nat.le_of_ble_eq_true rfl, Nat.le_of_ble_eq_true rfl⟩) (preV_std (wc := [(tp, .inr (6, [.ref bt, .int (nI 12)])), (bt, .inl (cI, 440, .inl fa3))]) [1, 2] hE hZ hA hS hP hD rfl (by decide) (fun h9 => va_recv hE.1 h9 (ci := 6) (q0 := 0) rfl rfl)) rfl rfl hl.1 rfl (lv_room (Nat.le_of_ble_eq_true rfl)) dX8_feed_42 ⟨Nat.le_of_ble_eq_true rfl, Nat.le_of_ble_eq_true rfl⟩) hP hD hS hA rfl rfl (by decide) (by decide) (fun u H locs hw hP hD hS => ?_)
  obtain ⟨fa4, rfl⟩ : ∃ z, z = u := ⟨_, rfl⟩
  try dsimp only at hw
  have hP : va_P D vwCl [(rb, .inr (9, [.ref rd, .ref tp, .ref rv, .ref sp, .int 0])), (tp, .inr (6, [.ref bt, .int (nI 16)])), (bt, .inl (cI, 440, .inl fa4))] H := hP
  have hD : va_D A [(rb, .inr (9, [.ref rd, .ref tp, .ref rv, .ref sp, .int 0])), (tp, .inr (6, [.ref bt, .int (nI 16)])), (bt, .inl (cI, 440, .inl fa4))] := hD
  refine lv_aload_n hx hb dX8_feed_45 rfl (lv_at hl 0 rfl) ?_
  refine va_get (D := D) (ci := 9) (v := .ref tp) (C := RX8) (T := TX8) (N := 5) hx hb hts im_X8_feed_X8 hown hE.1 hP 0 rfl rfl 1 (by decide) (hts (.fieldLink RX8 20 "RiverBridges" "tape" "LRiverBridges$Tape;") (by decide +kernel)) (fun _ h9 => h9) rfl dX8_feed_46 ?_
  refine lv_iload hx hb dX8_feed_49 (lv_at hl 5 rfl) ?_
  refine ss_callv (ws := [(rb, .inr (9, [.ref rd, .ref tp, .ref rv, .ref sp, .int 0])), (tp, .inr (6, [.ref bt, .int (nI 16)])), (bt, .inl (cI, 440, .inl fa4))]) (wc := [(tp, .inr (6, [.ref bt, .int (nI 16)])), (bt, .inl (cI, 440, .inl fa4))]) (wr := [(rb, .inr (9, [.ref rd, .ref tp, .ref rv, .ref sp, .int 0]))]) [1, 2] [0] (va_runV (As := [.int a5]) (rest := []) ⟨hx, hb, hml, hown, hts⟩ (c_Tape_append l D cI cZ cB cO cJ a0 H.size tp bt 16 fa4 a5 (by omega)) (cwV 1 hts gX8_feed_X5_append rfl rfl rfl (by decide +kernel) ⟨Nat.le_of_ble_eq_true rfl, Nat.le_of_ble_eq_true rfl⟩) (preV_std (wc := [(tp, .inr (6, [.ref bt, .int (nI 16)])), (bt, .inl (cI, 440, .inl fa4))]) [1, 2] hE hZ hA hS hP hD rfl (by decide) (fun h9 => va_recv hE.1 h9 (ci := 6) (q0 := 0) rfl rfl)) rfl rfl hl.1 rfl (lv_room (Nat.le_of_ble_eq_true rfl)) dX8_feed_51 ⟨Nat.le_of_ble_eq_true rfl, Nat.le_of_ble_eq_true rfl⟩) hP hD hS hA rfl rfl (by decide) (by decide) (fun u H locs hw hP hD hS => ?_)
  obtain ⟨fa5, rfl⟩ : ∃ z, z = u := ⟨_, rfl⟩
  try dsimp only at hw
  have hP : va_P D vwCl [(rb, .inr (9, [.ref rd, .ref tp, .ref rv, .ref sp, .int 0])), (tp, .inr (6, [.ref bt, .int (nI 20)])), (bt, .inl (cI, 440, .inl fa5))] H := hP
  have hD : va_D A [(rb, .inr (9, [.ref rd, .ref tp, .ref rv, .ref sp, .int 0])), (tp, .inr (6, [.ref bt, .int (nI 20)])), (bt, .inl (cI, 440, .inl fa5))] := hD
  refine lv_aload_n hx hb dX8_feed_54 rfl (lv_at hl 0 rfl) ?_
  refine va_get (D := D) (ci := 9) (v := .ref tp) (C := RX8) (T := TX8) (N := 5) hx hb hts im_X8_feed_X8 hown hE.1 hP 0 rfl rfl 1 (by decide) (hts (.fieldLink RX8 20 "RiverBridges" "tape" "LRiverBridges$Tape;") (by decide +kernel)) (fun _ h9 => h9) rfl dX8_feed_55 ?_
  refine va_get (D := D) (ci := 6) (v := .int (nI 20)) (C := RX5) (T := TX5) (N := 2) hx hb hts im_X8_feed_X5 hown hE.1 hP 1 rfl rfl 1 (by decide) (hts (.fieldLink RX8 49 "RiverBridges$Tape" "size" "I") (by decide +kernel)) (fun _ h9 => h9) rfl dX8_feed_58 ?_
  have hP9 := hP.sub (ws' := []) [] rfl
  have hD9 := hD.sub (ws' := []) [] (by decide) rfl
  exact ss_iret () hx hb hr hlocks hP9 hD9 hS (rfl) (Nat.le_of_ble_eq_true rfl) (Nat.le_of_ble_eq_true rfl) dX8_feed_61

theorem im_X8_end_X5 : ∀ w ∈ wsX50, w ∈ wsX8_end := fun _ h => List.mem_cons_of_mem _ (List.mem_append_right _ h)
theorem im_X8_end_X8 : ∀ w ∈ wsX80, w ∈ wsX8_end := fun _ h => List.mem_cons_of_mem _ (List.mem_append_left _ (List.mem_append_right _ h))
set_option maxHeartbeats 400000 in
set_option maxRecDepth 100000 in
theorem c_end (l : Launch) (D : va_G) (cI cZ cB cO cJ : ClassId) (a0 : Nat) (sz : Nat) (rb rd tp bt rv sp : Nat) (n : Int32)  : Met l yX8_end wsX8_end ({ frames := 1, cells := 0, slots := 0, locals := 22 }) (Pcs D cI cZ cB cO cJ a0 [.ref rb, .int n] [(rb, .inr (9, [.ref rd, .ref tp, .ref rv, .ref sp, .int 0])), (tp, .inr (6, [.ref bt, .int 0]))] sz) (va_Qi (fun (r : Int32) (u : Unit) => r = fE n) (fun (u : Unit) t => va_P D vwCl [] t.heap ∧ va_D (va_A [(rb, .inr (9, [.ref rd, .ref tp, .ref rv, .ref sp, .int 0])), (tp, .inr (6, [.ref bt, .int 0]))] sz) []) (va_A [(rb, .inr (9, [.ref rd, .ref tp, .ref rv, .ref sp, .int 0])), (tp, .inr (6, [.ref bt, .int 0]))] sz)) 0 0 (va_A [(rb, .inr (9, [.ref rd, .ref tp, .ref rv, .ref sp, .int 0])), (tp, .inr (6, [.ref bt, .int 0]))] sz) := by
  refine Met.ofW (cc := cX8_end) (maxL := 2) (ret := (some .boolean)) (by decide) rfl ?_
  intro p e s m args below meth c s₁ B hml hv
  obtain ⟨rfl, hsz, hP, hE, hD0, hZ⟩ := hv
  have hx := B.exec
  have hb := B.bytes
  have hr := B.returns
  have hts := atoms_spec (ws := wsX8_end) B.pre
  have hown : s.vm.findClass RX8 = some m.cls := findClass_of_methodNamed B.named
  have hlocks := B.notSynchronized
  have hin := (name_of_methodNamed B.named B.method).1
  subst hsz
  have hD := hD0.self (sz := s.heap.size)
  generalize hAe : va_A [(rb, .inr (9, [.ref rd, .ref tp, .ref rv, .ref sp, .int 0])), (tp, .inr (6, [.ref bt, .int 0]))] s.heap.size = A at hD hZ ⊢
  have hA : ∀ q : Nat, s.heap.size ≤ q → A q := fun q h => by rw [← hAe]; exact Or.inr h
  have hS : va_S A s.heap s.heap [] := va_S.rf
  have hP : va_P D vwCl [(rb, .inr (9, [.ref rd, .ref tp, .ref rv, .ref sp, .int 0])), (tp, .inr (6, [.ref bt, .int 0]))] s.heap := hP
  have hl := lv_entry ([.ref rb, .int n]) (n := 2) (Nat.le_of_ble_eq_true rfl)
  rw [lg_entry_eq]
  generalize (lg_sl ([.ref rb, .int n]) ++ List.replicate (2 - (lg_sl ([.ref rb, .int n])).length) Slot.unset).toArray = ls at hl ⊢
  have hl : lv_has ls 2 [(0, .ref rb), (1, .int n)] := hl
  refine lv_iload_n hx hb dX8_end_0 rfl (lv_at hl 1 rfl) ?_
  refine lv_iconst (v := 0) hx hb dX8_end_1 (by decide) ?_
  refine lv_aload_n hx hb dX8_end_2 rfl (lv_at hl 0 rfl) ?_
  refine va_get (D := D) (ci := 9) (v := .ref tp) (C := RX8) (T := TX8) (N := 5) hx hb hts im_X8_end_X8 hown hE.1 hP 0 rfl rfl 1 (by decide) (hts (.fieldLink RX8 20 "RiverBridges" "tape" "LRiverBridges$Tape;") (by decide +kernel)) (fun _ h9 => h9) rfl dX8_end_3 ?_
  refine va_get (D := D) (ci := 6) (v := .int 0) (C := RX5) (T := TX5) (N := 2) hx hb hts im_X8_end_X5 hown hE.1 hP 1 rfl rfl 1 (by decide) (hts (.fieldLink RX8 49 "RiverBridges$Tape" "size" "I") (by decide +kernel)) (fun _ h9 => h9) rfl dX8_end_6 ?_
  refine ss_calli (ws := [(rb, .inr (9, [.ref rd, .ref tp, .ref rv, .ref sp, .int 0])), (tp, .inr (6, [.ref bt, .int 0]))]) (wc := []) (wr := [(rb, .inr (9, [.ref rd, .ref tp, .ref rv, .ref sp, .int 0])), (tp, .inr (6, [.ref bt, .int 0]))]) [] [0, 1] (va_runS (As := [.int n, .int 0, .int 0]) (rest := []) ⟨hx, hb, hml, hown, hts⟩ (c_isWithin l D cI cZ cB cO cJ a0 s.heap.size n 0 0) (cwS 3 hts gX8_end_X8_isWithin rfl rfl rfl (by decide +kernel) ⟨Nat.le_of_ble_eq_true rfl, Nat.le_of_ble_eq_true rfl⟩) (preS_std (wc := []) [] hE hZ hA hS hP hD rfl (by decide)) rfl rfl hl.1 rfl (lv_room (Nat.le_of_ble_eq_true rfl)) dX8_end_9 ⟨Nat.le_of_ble_eq_true rfl, Nat.le_of_ble_eq_true rfl⟩) hP hD hS hA rfl rfl (by decide) (by decide) (fun r1 u H locs hw hP hD hS => ?_)
  try dsimp only at hw
  subst hw
  have hP : va_P D vwCl [(rb, .inr (9, [.ref rd, .ref tp, .ref rv, .ref sp, .int 0])), (tp, .inr (6, [.ref bt, .int 0]))] H := hP
  have hD : va_D A [(rb, .inr (9, [.ref rd, .ref tp, .ref rv, .ref sp, .int 0])), (tp, .inr (6, [.ref bt, .int 0]))] := hD
  refine lv_if_ne (tgt := 17) hx hb dX8_end_12 (by decide) (fun ca => ?_) (fun ca => ?_)
  · refine lv_aload_n hx hb dX8_end_17 rfl (lv_at hl 0 rfl) ?_
    refine va_get (D := D) (ci := 9) (v := .ref tp) (C := RX8) (T := TX8) (N := 5) hx hb hts im_X8_end_X8 hown hE.1 hP 0 rfl rfl 1 (by decide) (hts (.fieldLink RX8 20 "RiverBridges" "tape" "LRiverBridges$Tape;") (by decide +kernel)) (fun _ h9 => h9) rfl dX8_end_18 ?_
    refine lv_iload_n hx hb dX8_end_21 rfl (lv_at hl 1 rfl) ?_
    refine va_put (D := D) (ci := 6) (v := .int n) (ty := .int) (C := RX5) (T := TX5) (N := 2) hx hb hts im_X8_end_X5 tyX5 tyX5_ok nmX5 hown hE.1 hP hD hS 1 rfl rfl 1 (by decide) (hts (.fieldLink RX8 49 "RiverBridges$Tape" "size" "I") (by decide +kernel)) (fun _ h9 => h9) rfl (by decide +kernel) rfl rfl (Nat.le_of_ble_eq_true rfl) dX8_end_22 (fun H locs hP hD hS => ?_)
    have hP : va_P D vwCl [(rb, .inr (9, [.ref rd, .ref tp, .ref rv, .ref sp, .int 0])), (tp, .inr (6, [.ref bt, .int n]))] H := hP
    have hD : va_D A [(rb, .inr (9, [.ref rd, .ref tp, .ref rv, .ref sp, .int 0])), (tp, .inr (6, [.ref bt, .int n]))] := hD
    refine lv_iconst (v := 1) hx hb dX8_end_25 (by decide) ?_
    have hP9 := hP.sub (ws' := []) [] rfl
    have hD9 := hD.sub (ws' := []) [] (by decide) rfl
    exact ss_zret () hx hb hr hlocks (by decide) hP9 hD9 hS (by unfold fE; rw [if_neg ca]) (Nat.le_of_ble_eq_true rfl) (Nat.le_of_ble_eq_true rfl) dX8_end_26
  · refine lv_iconst (v := 0) hx hb dX8_end_15 (by decide) ?_
    have hP9 := hP.sub (ws' := []) [] rfl
    have hD9 := hD.sub (ws' := []) [] (by decide) rfl
    exact ss_zret () hx hb hr hlocks (by decide) hP9 hD9 hS (by unfold fE; rw [if_pos ca]) (Nat.le_of_ble_eq_true rfl) (Nat.le_of_ble_eq_true rfl) dX8_end_16

theorem im_X8_tide_X3 : ∀ w ∈ wsX30, w ∈ wsX8_tide := fun _ h => List.mem_cons_of_mem _ (List.mem_append_left _ (List.mem_append_left _ (List.mem_append_right _ h)))
theorem im_X8_tide_X5 : ∀ w ∈ wsX50, w ∈ wsX8_tide := fun _ h => List.mem_cons_of_mem _ (List.mem_append_left _ (List.mem_append_right _ h))
theorem im_X8_tide_X8 : ∀ w ∈ wsX80, w ∈ wsX8_tide := fun _ h => List.mem_cons_of_mem _ (List.mem_append_left _ (List.mem_append_left _ (List.mem_append_left _ (List.mem_append_right _ h))))
set_option maxHeartbeats 400000 in
set_option maxRecDepth 100000 in
theorem c_tide (l : Launch) (D : va_G) (cI cZ cB cO cJ : ClassId) (a0 : Nat) (sz : Nat) (rb rd tp bt rv sp td lv br sh ke tt : Nat)  : Met l yX8_tide wsX8_tide ({ frames := 1, cells := 0, slots := 0, locals := 22 }) (Pcs D cI cZ cB cO cJ a0 [.ref rb] [(rb, .inr (9, [.ref rd, .ref tp, .ref rv, .ref sp, .int 0])), (tp, .inr (6, [.ref bt, .int 0])), (rv, .inr (4, [.ref td, .ref br, .ref sh, .ref ke, .ref tt, .int 5, .int 0])), (td, .inr (7, [.ref lv]))] sz) (va_Qi (fun (r : Int32) (u : Unit) => r = 0) (fun (u : Unit) t => va_P D vwCl [] t.heap ∧ va_D (va_A [(rb, .inr (9, [.ref rd, .ref tp, .ref rv, .ref sp, .int 0])), (tp, .inr (6, [.ref bt, .int 0])), (rv, .inr (4, [.ref td, .ref br, .ref sh, .ref ke, .ref tt, .int 5, .int 0])), (td, .inr (7, [.ref lv]))] sz) []) (va_A [(rb, .inr (9, [.ref rd, .ref tp, .ref rv, .ref sp, .int 0])), (tp, .inr (6, [.ref bt, .int 0])), (rv, .inr (4, [.ref td, .ref br, .ref sh, .ref ke, .ref tt, .int 5, .int 0])), (td, .inr (7, [.ref lv]))] sz)) 0 0 (va_A [(rb, .inr (9, [.ref rd, .ref tp, .ref rv, .ref sp, .int 0])), (tp, .inr (6, [.ref bt, .int 0])), (rv, .inr (4, [.ref td, .ref br, .ref sh, .ref ke, .ref tt, .int 5, .int 0])), (td, .inr (7, [.ref lv]))] sz) := by
  refine Met.ofW (cc := cX8_tide) (maxL := 2) (ret := (some .boolean)) (by decide) rfl ?_
  intro p e s m args below meth c s₁ B hml hv
  obtain ⟨rfl, hsz, hP, hE, hD0, hZ⟩ := hv
  have hx := B.exec
  have hb := B.bytes
  have hr := B.returns
  have hts := atoms_spec (ws := wsX8_tide) B.pre
  have hown : s.vm.findClass RX8 = some m.cls := findClass_of_methodNamed B.named
  have hlocks := B.notSynchronized
  have hin := (name_of_methodNamed B.named B.method).1
  subst hsz
  have hD := hD0.self (sz := s.heap.size)
  generalize hAe : va_A [(rb, .inr (9, [.ref rd, .ref tp, .ref rv, .ref sp, .int 0])), (tp, .inr (6, [.ref bt, .int 0])), (rv, .inr (4, [.ref td, .ref br, .ref sh, .ref ke, .ref tt, .int 5, .int 0])), (td, .inr (7, [.ref lv]))] s.heap.size = A at hD hZ ⊢
  have hA : ∀ q : Nat, s.heap.size ≤ q → A q := fun q h => by rw [← hAe]; exact Or.inr h
  have hS : va_S A s.heap s.heap [] := va_S.rf
  have hP : va_P D vwCl [(rb, .inr (9, [.ref rd, .ref tp, .ref rv, .ref sp, .int 0])), (tp, .inr (6, [.ref bt, .int 0])), (rv, .inr (4, [.ref td, .ref br, .ref sh, .ref ke, .ref tt, .int 5, .int 0])), (td, .inr (7, [.ref lv]))] s.heap := hP
  have hl := lv_entry ([.ref rb]) (n := 2) (Nat.le_of_ble_eq_true rfl)
  rw [lg_entry_eq]
  generalize (lg_sl ([.ref rb]) ++ List.replicate (2 - (lg_sl ([.ref rb])).length) Slot.unset).toArray = ls at hl ⊢
  have hl : lv_has ls 2 [(0, .ref rb)] := hl
  refine lv_aload_n hx hb dX8_tide_0 rfl (lv_at hl 0 rfl) ?_
  refine va_get (D := D) (ci := 9) (v := .ref rv) (C := RX8) (T := TX8) (N := 5) hx hb hts im_X8_tide_X8 hown hE.1 hP 0 rfl rfl 2 (by decide) (hts (.fieldLink RX8 24 "RiverBridges" "river" "LRiverBridges$River;") (by decide +kernel)) (fun _ h9 => h9) rfl dX8_tide_1 ?_
  refine va_get (D := D) (ci := 4) (v := .int 0) (C := RX3) (T := TX3) (N := 7) hx hb hts im_X8_tide_X3 hown hE.1 hP 2 rfl rfl 6 (by decide) (hts (.fieldLink RX8 56 "RiverBridges$River" "minute" "I") (by decide +kernel)) (fun _ h9 => h9) rfl dX8_tide_4 ?_
  refine lv_if_ne (tgt := 31) hx hb dX8_tide_7 (by decide) (fun c9 => absurd (by decide) c9) (fun _ => ?_)
  refine lv_aload_n hx hb dX8_tide_10 rfl (lv_at hl 0 rfl) ?_
  refine va_get (D := D) (ci := 9) (v := .ref rv) (C := RX8) (T := TX8) (N := 5) hx hb hts im_X8_tide_X8 hown hE.1 hP 0 rfl rfl 2 (by decide) (hts (.fieldLink RX8 24 "RiverBridges" "river" "LRiverBridges$River;") (by decide +kernel)) (fun _ h9 => h9) rfl dX8_tide_11 ?_
  refine va_get (D := D) (ci := 4) (v := .ref td) (C := RX3) (T := TX3) (N := 7) hx hb hts im_X8_tide_X3 hown hE.1 hP 2 rfl rfl 0 (by decide) (hts (.fieldLink RX8 77 "RiverBridges$River" "tide" "LRiverBridges$Tide;") (by decide +kernel)) (fun _ h9 => h9) rfl dX8_tide_14 ?_
  refine lv_aload_n hx hb dX8_tide_17 rfl (lv_at hl 0 rfl) ?_
  refine va_get (D := D) (ci := 9) (v := .ref tp) (C := RX8) (T := TX8) (N := 5) hx hb hts im_X8_tide_X8 hown hE.1 hP 0 rfl rfl 1 (by decide) (hts (.fieldLink RX8 20 "RiverBridges" "tape" "LRiverBridges$Tape;") (by decide +kernel)) (fun _ h9 => h9) rfl dX8_tide_18 ?_
  refine ss_calli (ws := [(rb, .inr (9, [.ref rd, .ref tp, .ref rv, .ref sp, .int 0])), (tp, .inr (6, [.ref bt, .int 0])), (rv, .inr (4, [.ref td, .ref br, .ref sh, .ref ke, .ref tt, .int 5, .int 0])), (td, .inr (7, [.ref lv]))]) (wc := [(td, .inr (7, [.ref lv])), (tp, .inr (6, [.ref bt, .int 0]))]) (wr := [(rb, .inr (9, [.ref rd, .ref tp, .ref rv, .ref sp, .int 0])), (rv, .inr (4, [.ref td, .ref br, .ref sh, .ref ke, .ref tt, .int 5, .int 0]))]) [3, 1] [0, 2] (va_runV (As := [.ref tp]) (rest := []) ⟨hx, hb, hml, hown, hts⟩ (c_Tide_takeFrom l D cI cZ cB cO cJ a0 s.heap.size td tp lv bt) (cwV 1 hts gX8_tide_X6_takeFrom rfl rfl rfl (by decide +kernel) ⟨Nat.le_of_ble_eq_true rfl, Nat.le_of_ble_eq_true rfl⟩) (preV_std (wc := [(td, .inr (7, [.ref lv])), (tp, .inr (6, [.ref bt, .int 0]))]) [3, 1] hE hZ hA hS hP hD rfl (by decide) (fun h9 => va_recv hE.1 h9 (ci := 7) (q0 := 0) rfl rfl)) rfl rfl hl.1 rfl (lv_room (Nat.le_of_ble_eq_true rfl)) dX8_tide_21 ⟨Nat.le_of_ble_eq_true rfl, Nat.le_of_ble_eq_true rfl⟩) hP hD hS hA rfl rfl (by decide) (by decide) (fun r1 u H locs hw hP hD hS => ?_)
  try dsimp only at hw
  subst hw
  have hP : va_P D vwCl [(rb, .inr (9, [.ref rd, .ref tp, .ref rv, .ref sp, .int 0])), (rv, .inr (4, [.ref td, .ref br, .ref sh, .ref ke, .ref tt, .int 5, .int 0])), (td, .inr (7, [.ref lv])), (tp, .inr (6, [.ref bt, .int 0]))] H := hP
  have hD : va_D A [(rb, .inr (9, [.ref rd, .ref tp, .ref rv, .ref sp, .int 0])), (rv, .inr (4, [.ref td, .ref br, .ref sh, .ref ke, .ref tt, .int 5, .int 0])), (td, .inr (7, [.ref lv])), (tp, .inr (6, [.ref bt, .int 0]))] := hD
  refine lv_if_eq (tgt := 31) hx hb dX8_tide_24 (by decide) (fun _ => ?_) (fun c9 => absurd (by decide) c9)
  refine lv_iconst (v := 0) hx hb dX8_tide_31 (by decide) ?_
  refine lv_istore_n (lv' := [(1, .int 0), (0, .ref rb)]) hx hb dX8_tide_32 rfl hl (by decide) rfl (fun ls hl => ?_)
  refine lv_aload_n hx hb dX8_tide_33 rfl (lv_at hl 1 rfl) ?_
  refine va_get (D := D) (ci := 9) (v := .ref tp) (C := RX8) (T := TX8) (N := 5) hx hb hts im_X8_tide_X8 hown hE.1 hP 0 rfl rfl 1 (by decide) (hts (.fieldLink RX8 20 "RiverBridges" "tape" "LRiverBridges$Tape;") (by decide +kernel)) (fun _ h9 => h9) rfl dX8_tide_34 ?_
  refine lv_iconst (v := 0) hx hb dX8_tide_37 (by decide) ?_
  refine va_put (D := D) (ci := 6) (v := .int 0) (ty := .int) (C := RX5) (T := TX5) (N := 2) hx hb hts im_X8_tide_X5 tyX5 tyX5_ok nmX5 hown hE.1 hP hD hS 3 rfl rfl 1 (by decide) (hts (.fieldLink RX8 49 "RiverBridges$Tape" "size" "I") (by decide +kernel)) (fun _ h9 => h9) rfl (by decide +kernel) rfl rfl (Nat.le_of_ble_eq_true rfl) dX8_tide_38 (fun H locs hP hD hS => ?_)
  have hP : va_P D vwCl [(rb, .inr (9, [.ref rd, .ref tp, .ref rv, .ref sp, .int 0])), (rv, .inr (4, [.ref td, .ref br, .ref sh, .ref ke, .ref tt, .int 5, .int 0])), (td, .inr (7, [.ref lv])), (tp, .inr (6, [.ref bt, .int 0]))] H := hP
  have hD : va_D A [(rb, .inr (9, [.ref rd, .ref tp, .ref rv, .ref sp, .int 0])), (rv, .inr (4, [.ref td, .ref br, .ref sh, .ref ke, .ref tt, .int 5, .int 0])), (td, .inr (7, [.ref lv])), (tp, .inr (6, [.ref bt, .int 0]))] := hD
  refine lv_iload_n hx hb dX8_tide_41 rfl (lv_at hl 0 rfl) ?_
  have hP9 := hP.sub (ws' := []) [] rfl
  have hD9 := hD.sub (ws' := []) [] (by decide) rfl
  exact ss_zret () hx hb hr hlocks (by decide) hP9 hD9 hS (rfl) (Nat.le_of_ble_eq_true rfl) (Nat.le_of_ble_eq_true rfl) dX8_tide_42

theorem im_X8_fault_X8 : ∀ w ∈ wsX80, w ∈ wsX8_fault := fun _ h => List.mem_cons_of_mem _ (List.mem_append_right _ h)
set_option maxHeartbeats 400000 in
set_option maxRecDepth 100000 in
theorem c_fault (l : Launch) (D : va_G) (cI cZ cB cO cJ : ClassId) (a0 : Nat) (sz : Nat) (rb rd tp rv sp : Nat)  : Met l yX8_fault wsX8_fault ({ frames := 0, cells := 0, slots := 0, locals := 0 }) (Pcs D cI cZ cB cO cJ a0 [.ref rb] [(rb, .inr (9, [.ref rd, .ref tp, .ref rv, .ref sp, .int 0]))] sz) (va_Qi (fun (r : Int32) (u : Unit) => r = 0) (fun (u : Unit) t => va_P D vwCl [] t.heap ∧ va_D (va_A [(rb, .inr (9, [.ref rd, .ref tp, .ref rv, .ref sp, .int 0]))] sz) []) (va_A [(rb, .inr (9, [.ref rd, .ref tp, .ref rv, .ref sp, .int 0]))] sz)) 0 0 (va_A [(rb, .inr (9, [.ref rd, .ref tp, .ref rv, .ref sp, .int 0]))] sz) := by
  refine Met.ofW (cc := cX8_fault) (maxL := 1) (ret := (some .int)) (by decide) rfl ?_
  intro p e s m args below meth c s₁ B hml hv
  obtain ⟨rfl, hsz, hP, hE, hD0, hZ⟩ := hv
  have hx := B.exec
  have hb := B.bytes
  have hr := B.returns
  have hts := atoms_spec (ws := wsX8_fault) B.pre
  have hown : s.vm.findClass RX8 = some m.cls := findClass_of_methodNamed B.named
  have hlocks := B.notSynchronized
  have hin := (name_of_methodNamed B.named B.method).1
  subst hsz
  have hD := hD0.self (sz := s.heap.size)
  generalize hAe : va_A [(rb, .inr (9, [.ref rd, .ref tp, .ref rv, .ref sp, .int 0]))] s.heap.size = A at hD hZ ⊢
  have hA : ∀ q : Nat, s.heap.size ≤ q → A q := fun q h => by rw [← hAe]; exact Or.inr h
  have hS : va_S A s.heap s.heap [] := va_S.rf
  have hP : va_P D vwCl [(rb, .inr (9, [.ref rd, .ref tp, .ref rv, .ref sp, .int 0]))] s.heap := hP
  have hl := lv_entry ([.ref rb]) (n := 1) (Nat.le_of_ble_eq_true rfl)
  rw [lg_entry_eq]
  generalize (lg_sl ([.ref rb]) ++ List.replicate (1 - (lg_sl ([.ref rb])).length) Slot.unset).toArray = ls at hl ⊢
  have hl : lv_has ls 1 [(0, .ref rb)] := hl
  refine lv_aload_n hx hb dX8_fault_0 rfl (lv_at hl 0 rfl) ?_
  refine va_get (D := D) (ci := 9) (v := .int 0) (C := RX8) (T := TX8) (N := 5) hx hb hts im_X8_fault_X8 hown hE.1 hP 0 rfl rfl 4 (by decide) (hts (.fieldLink RX8 35 "RiverBridges" "faultKind" "I") (by decide +kernel)) (fun _ h9 => h9) rfl dX8_fault_1 ?_
  have hP9 := hP.sub (ws' := []) [] rfl
  have hD9 := hD.sub (ws' := []) [] (by decide) rfl
  exact ss_iret () hx hb hr hlocks hP9 hD9 hS (rfl) (Nat.le_of_ble_eq_true rfl) (Nat.le_of_ble_eq_true rfl) dX8_fault_4

theorem im_X8_keeper_X3 : ∀ w ∈ wsX30, w ∈ wsX8_keeper := fun _ h => List.mem_cons_of_mem _ (List.mem_append_left _ (List.mem_append_left _ (List.mem_append_right _ h)))
theorem im_X8_keeper_X8 : ∀ w ∈ wsX80, w ∈ wsX8_keeper := fun _ h => List.mem_cons_of_mem _ (List.mem_append_left _ (List.mem_append_left _ (List.mem_append_left _ (List.mem_append_right _ h))))
set_option maxHeartbeats 400000 in
set_option maxRecDepth 100000 in
theorem c_keeper (l : Launch) (D : va_G) (cI cZ cB cO cJ : ClassId) (a0 : Nat) (sz : Nat) (rb rd tp rv sp td br sh ke tt : Nat) (b : Int32)  : Met l yX8_keeper wsX8_keeper ({ frames := 2, cells := 0, slots := 0, locals := 43 }) (Pcs D cI cZ cB cO cJ a0 [.ref rb, .int b] [(rb, .inr (9, [.ref rd, .ref tp, .ref rv, .ref sp, .int 0])), (rv, .inr (4, [.ref td, .ref br, .ref sh, .ref ke, .ref tt, .int 5, .int 0])), (br, .inr (0, [.int 0, .ref a0, .int 0])), (ke, .inr (0, [.int 0, .ref a0, .int 0]))] sz) (va_Qi (fun (r : Int32) (u : Unit) => r = -1) (fun (u : Unit) t => va_P D vwCl [] t.heap ∧ va_D (va_A [(rb, .inr (9, [.ref rd, .ref tp, .ref rv, .ref sp, .int 0])), (rv, .inr (4, [.ref td, .ref br, .ref sh, .ref ke, .ref tt, .int 5, .int 0])), (br, .inr (0, [.int 0, .ref a0, .int 0])), (ke, .inr (0, [.int 0, .ref a0, .int 0]))] sz) []) (va_A [(rb, .inr (9, [.ref rd, .ref tp, .ref rv, .ref sp, .int 0])), (rv, .inr (4, [.ref td, .ref br, .ref sh, .ref ke, .ref tt, .int 5, .int 0])), (br, .inr (0, [.int 0, .ref a0, .int 0])), (ke, .inr (0, [.int 0, .ref a0, .int 0]))] sz)) 0 0 (va_A [(rb, .inr (9, [.ref rd, .ref tp, .ref rv, .ref sp, .int 0])), (rv, .inr (4, [.ref td, .ref br, .ref sh, .ref ke, .ref tt, .int 5, .int 0])), (br, .inr (0, [.int 0, .ref a0, .int 0])), (ke, .inr (0, [.int 0, .ref a0, .int 0]))] sz) := by
  refine Met.ofW (cc := cX8_keeper) (maxL := 2) (ret := (some .int)) (by decide) rfl ?_
  intro p e s m args below meth c s₁ B hml hv
  obtain ⟨rfl, hsz, hP, hE, hD0, hZ⟩ := hv
  have hx := B.exec
  have hb := B.bytes
  have hr := B.returns
  have hts := atoms_spec (ws := wsX8_keeper) B.pre
  have hown : s.vm.findClass RX8 = some m.cls := findClass_of_methodNamed B.named
  have hlocks := B.notSynchronized
  have hin := (name_of_methodNamed B.named B.method).1
  subst hsz
  have hD := hD0.self (sz := s.heap.size)
  generalize hAe : va_A [(rb, .inr (9, [.ref rd, .ref tp, .ref rv, .ref sp, .int 0])), (rv, .inr (4, [.ref td, .ref br, .ref sh, .ref ke, .ref tt, .int 5, .int 0])), (br, .inr (0, [.int 0, .ref a0, .int 0])), (ke, .inr (0, [.int 0, .ref a0, .int 0]))] s.heap.size = A at hD hZ ⊢
  have hA : ∀ q : Nat, s.heap.size ≤ q → A q := fun q h => by rw [← hAe]; exact Or.inr h
  have hS : va_S A s.heap s.heap [] := va_S.rf
  have hP : va_P D vwCl [(rb, .inr (9, [.ref rd, .ref tp, .ref rv, .ref sp, .int 0])), (rv, .inr (4, [.ref td, .ref br, .ref sh, .ref ke, .ref tt, .int 5, .int 0])), (br, .inr (0, [.int 0, .ref a0, .int 0])), (ke, .inr (0, [.int 0, .ref a0, .int 0]))] s.heap := hP
  have hl := lv_entry ([.ref rb, .int b]) (n := 2) (Nat.le_of_ble_eq_true rfl)
  rw [lg_entry_eq]
  generalize (lg_sl ([.ref rb, .int b]) ++ List.replicate (2 - (lg_sl ([.ref rb, .int b])).length) Slot.unset).toArray = ls at hl ⊢
  have hl : lv_has ls 2 [(0, .ref rb), (1, .int b)] := hl
  refine lv_aload_n hx hb dX8_keeper_0 rfl (lv_at hl 0 rfl) ?_
  refine va_get (D := D) (ci := 9) (v := .ref rv) (C := RX8) (T := TX8) (N := 5) hx hb hts im_X8_keeper_X8 hown hE.1 hP 0 rfl rfl 2 (by decide) (hts (.fieldLink RX8 24 "RiverBridges" "river" "LRiverBridges$River;") (by decide +kernel)) (fun _ h9 => h9) rfl dX8_keeper_1 ?_
  refine va_get (D := D) (ci := 4) (v := .int 0) (C := RX3) (T := TX3) (N := 7) hx hb hts im_X8_keeper_X3 hown hE.1 hP 1 rfl rfl 6 (by decide) (hts (.fieldLink RX8 56 "RiverBridges$River" "minute" "I") (by decide +kernel)) (fun _ h9 => h9) rfl dX8_keeper_4 ?_
  refine lv_if_ne (tgt := 32) hx hb dX8_keeper_7 (by decide) (fun c9 => absurd (by decide) c9) (fun _ => ?_)
  refine lv_aload_n hx hb dX8_keeper_10 rfl (lv_at hl 0 rfl) ?_
  refine va_get (D := D) (ci := 9) (v := .ref rv) (C := RX8) (T := TX8) (N := 5) hx hb hts im_X8_keeper_X8 hown hE.1 hP 0 rfl rfl 2 (by decide) (hts (.fieldLink RX8 24 "RiverBridges" "river" "LRiverBridges$River;") (by decide +kernel)) (fun _ h9 => h9) rfl dX8_keeper_11 ?_
  refine va_get (D := D) (ci := 4) (v := .ref ke) (C := RX3) (T := TX3) (N := 7) hx hb hts im_X8_keeper_X3 hown hE.1 hP 1 rfl rfl 3 (by decide) (hts (.fieldLink RX8 101 "RiverBridges$River" "keepers" "Ljava/util/ArrayList;") (by decide +kernel)) (fun _ h9 => h9) rfl dX8_keeper_14 ?_
  refine ss_calli (ws := [(rb, .inr (9, [.ref rd, .ref tp, .ref rv, .ref sp, .int 0])), (rv, .inr (4, [.ref td, .ref br, .ref sh, .ref ke, .ref tt, .int 5, .int 0])), (br, .inr (0, [.int 0, .ref a0, .int 0])), (ke, .inr (0, [.int 0, .ref a0, .int 0]))]) (wc := [(ke, .inr (0, [.int 0, .ref a0, .int 0]))]) (wr := [(rb, .inr (9, [.ref rd, .ref tp, .ref rv, .ref sp, .int 0])), (rv, .inr (4, [.ref td, .ref br, .ref sh, .ref ke, .ref tt, .int 5, .int 0])), (br, .inr (0, [.int 0, .ref a0, .int 0]))]) [3] [0, 1, 2] (va_runV (As := []) (rest := []) ⟨hx, hb, hml, hown, hts⟩ (c_AL_size l D cI cZ cB cO cJ a0 s.heap.size ke a0 0 0) (cwV 0 hts gX8_keeper_Jx4a65c_size_8abf5 rfl rfl rfl (by decide +kernel) ⟨Nat.le_of_ble_eq_true rfl, Nat.le_of_ble_eq_true rfl⟩) (preV_std (wc := [(ke, .inr (0, [.int 0, .ref a0, .int 0]))]) [3] hE hZ hA hS hP hD rfl (by decide) (fun h9 => va_recv hE.1 h9 (ci := 0) (q0 := 0) rfl rfl)) rfl rfl hl.1 rfl (lv_room (Nat.le_of_ble_eq_true rfl)) dX8_keeper_17 ⟨Nat.le_of_ble_eq_true rfl, Nat.le_of_ble_eq_true rfl⟩) hP hD hS hA rfl rfl (by decide) (by decide) (fun r1 u H locs hw hP hD hS => ?_)
  try dsimp only at hw
  subst hw
  have hP : va_P D vwCl [(rb, .inr (9, [.ref rd, .ref tp, .ref rv, .ref sp, .int 0])), (rv, .inr (4, [.ref td, .ref br, .ref sh, .ref ke, .ref tt, .int 5, .int 0])), (br, .inr (0, [.int 0, .ref a0, .int 0])), (ke, .inr (0, [.int 0, .ref a0, .int 0]))] H := hP
  have hD : va_D A [(rb, .inr (9, [.ref rd, .ref tp, .ref rv, .ref sp, .int 0])), (rv, .inr (4, [.ref td, .ref br, .ref sh, .ref ke, .ref tt, .int 5, .int 0])), (br, .inr (0, [.int 0, .ref a0, .int 0])), (ke, .inr (0, [.int 0, .ref a0, .int 0]))] := hD
  refine lv_iconst (v := 4) hx hb dX8_keeper_20 (by decide) ?_
  refine lv_icmp_ge (tgt := 32) hx hb dX8_keeper_21 (by decide) (fun c9 => absurd c9 (by decide)) (fun _ => ?_)
  refine lv_aload_n hx hb dX8_keeper_24 rfl (lv_at hl 0 rfl) ?_
  refine lv_iload_n hx hb dX8_keeper_25 rfl (lv_at hl 1 rfl) ?_
  refine ss_calli (ws := [(rb, .inr (9, [.ref rd, .ref tp, .ref rv, .ref sp, .int 0])), (rv, .inr (4, [.ref td, .ref br, .ref sh, .ref ke, .ref tt, .int 5, .int 0])), (br, .inr (0, [.int 0, .ref a0, .int 0])), (ke, .inr (0, [.int 0, .ref a0, .int 0]))]) (wc := [(rb, .inr (9, [.ref rd, .ref tp, .ref rv, .ref sp, .int 0])), (rv, .inr (4, [.ref td, .ref br, .ref sh, .ref ke, .ref tt, .int 5, .int 0])), (br, .inr (0, [.int 0, .ref a0, .int 0]))]) (wr := [(ke, .inr (0, [.int 0, .ref a0, .int 0]))]) [0, 1, 2] [3] (va_runV (As := [.int b]) (rest := []) ⟨hx, hb, hml, hown, hts⟩ (c_isBridge l D cI cZ cB cO cJ a0 H.size rb rd tp rv sp td br sh ke tt b) (cwV 1 hts gX8_keeper_X8_isBridge rfl rfl rfl (by decide +kernel) ⟨Nat.le_of_ble_eq_true rfl, Nat.le_of_ble_eq_true rfl⟩) (preV_std (wc := [(rb, .inr (9, [.ref rd, .ref tp, .ref rv, .ref sp, .int 0])), (rv, .inr (4, [.ref td, .ref br, .ref sh, .ref ke, .ref tt, .int 5, .int 0])), (br, .inr (0, [.int 0, .ref a0, .int 0]))]) [0, 1, 2] hE hZ hA hS hP hD rfl (by decide) (fun h9 => va_recv hE.1 h9 (ci := 9) (q0 := 0) rfl rfl)) rfl rfl hl.1 rfl (lv_room (Nat.le_of_ble_eq_true rfl)) dX8_keeper_26 ⟨Nat.le_of_ble_eq_true rfl, Nat.le_of_ble_eq_true rfl⟩) hP hD hS hA rfl rfl (by decide) (by decide) (fun r2 u H locs hw hP hD hS => ?_)
  try dsimp only at hw
  subst hw
  have hP : va_P D vwCl [(ke, .inr (0, [.int 0, .ref a0, .int 0])), (rb, .inr (9, [.ref rd, .ref tp, .ref rv, .ref sp, .int 0])), (rv, .inr (4, [.ref td, .ref br, .ref sh, .ref ke, .ref tt, .int 5, .int 0])), (br, .inr (0, [.int 0, .ref a0, .int 0]))] H := hP
  have hD : va_D A [(ke, .inr (0, [.int 0, .ref a0, .int 0])), (rb, .inr (9, [.ref rd, .ref tp, .ref rv, .ref sp, .int 0])), (rv, .inr (4, [.ref td, .ref br, .ref sh, .ref ke, .ref tt, .int 5, .int 0])), (br, .inr (0, [.int 0, .ref a0, .int 0]))] := hD
  refine lv_if_ne (tgt := 34) hx hb dX8_keeper_29 (by decide) (fun c9 => absurd (by decide) c9) (fun _ => ?_)
  refine lv_iconst (v := -1) hx hb dX8_keeper_32 (by decide) ?_
  have hP9 := hP.sub (ws' := []) [] rfl
  have hD9 := hD.sub (ws' := []) [] (by decide) rfl
  exact ss_iret () hx hb hr hlocks hP9 hD9 hS (rfl) (Nat.le_of_ble_eq_true rfl) (Nat.le_of_ble_eq_true rfl) dX8_keeper_33

theorem im_X8_legs_X3 : ∀ w ∈ wsX30, w ∈ wsX8_legs := fun _ h => List.mem_cons_of_mem _ (List.mem_append_right _ h)
theorem im_X8_legs_X8 : ∀ w ∈ wsX80, w ∈ wsX8_legs := fun _ h => List.mem_cons_of_mem _ (List.mem_append_left _ (List.mem_append_right _ h))
set_option maxHeartbeats 400000 in
set_option maxRecDepth 100000 in
theorem c_legs (l : Launch) (D : va_G) (cI cZ cB cO cJ : ClassId) (a0 : Nat) (sz : Nat) (rb rd tp rv sp td br sh ke tt : Nat) (n : Int32)  : Met l yX8_legs wsX8_legs ({ frames := 1, cells := 0, slots := 0, locals := 22 }) (Pcs D cI cZ cB cO cJ a0 [.ref rb, .int n] [(rb, .inr (9, [.ref rd, .ref tp, .ref rv, .ref sp, .int 0])), (rv, .inr (4, [.ref td, .ref br, .ref sh, .ref ke, .ref tt, .int 5, .int 0]))] sz) (va_Qi (fun (r : Int32) (u : Unit) => r = fM n) (fun (u : Unit) t => va_P D vwCl [] t.heap ∧ va_D (va_A [(rb, .inr (9, [.ref rd, .ref tp, .ref rv, .ref sp, .int 0])), (rv, .inr (4, [.ref td, .ref br, .ref sh, .ref ke, .ref tt, .int 5, .int 0]))] sz) []) (va_A [(rb, .inr (9, [.ref rd, .ref tp, .ref rv, .ref sp, .int 0])), (rv, .inr (4, [.ref td, .ref br, .ref sh, .ref ke, .ref tt, .int 5, .int 0]))] sz)) 0 0 (va_A [(rb, .inr (9, [.ref rd, .ref tp, .ref rv, .ref sp, .int 0])), (rv, .inr (4, [.ref td, .ref br, .ref sh, .ref ke, .ref tt, .int 5, .int 0]))] sz) := by
  refine Met.ofW (cc := cX8_legs) (maxL := 2) (ret := (some .boolean)) (by decide) rfl ?_
  intro p e s m args below meth c s₁ B hml hv
  obtain ⟨rfl, hsz, hP, hE, hD0, hZ⟩ := hv
  have hx := B.exec
  have hb := B.bytes
  have hr := B.returns
  have hts := atoms_spec (ws := wsX8_legs) B.pre
  have hown : s.vm.findClass RX8 = some m.cls := findClass_of_methodNamed B.named
  have hlocks := B.notSynchronized
  have hin := (name_of_methodNamed B.named B.method).1
  subst hsz
  have hD := hD0.self (sz := s.heap.size)
  generalize hAe : va_A [(rb, .inr (9, [.ref rd, .ref tp, .ref rv, .ref sp, .int 0])), (rv, .inr (4, [.ref td, .ref br, .ref sh, .ref ke, .ref tt, .int 5, .int 0]))] s.heap.size = A at hD hZ ⊢
  have hA : ∀ q : Nat, s.heap.size ≤ q → A q := fun q h => by rw [← hAe]; exact Or.inr h
  have hS : va_S A s.heap s.heap [] := va_S.rf
  have hP : va_P D vwCl [(rb, .inr (9, [.ref rd, .ref tp, .ref rv, .ref sp, .int 0])), (rv, .inr (4, [.ref td, .ref br, .ref sh, .ref ke, .ref tt, .int 5, .int 0]))] s.heap := hP
  have hl := lv_entry ([.ref rb, .int n]) (n := 2) (Nat.le_of_ble_eq_true rfl)
  rw [lg_entry_eq]
  generalize (lg_sl ([.ref rb, .int n]) ++ List.replicate (2 - (lg_sl ([.ref rb, .int n])).length) Slot.unset).toArray = ls at hl ⊢
  have hl : lv_has ls 2 [(0, .ref rb), (1, .int n)] := hl
  refine lv_aload_n hx hb dX8_legs_0 rfl (lv_at hl 0 rfl) ?_
  refine va_get (D := D) (ci := 9) (v := .ref rv) (C := RX8) (T := TX8) (N := 5) hx hb hts im_X8_legs_X8 hown hE.1 hP 0 rfl rfl 2 (by decide) (hts (.fieldLink RX8 24 "RiverBridges" "river" "LRiverBridges$River;") (by decide +kernel)) (fun _ h9 => h9) rfl dX8_legs_1 ?_
  refine va_get (D := D) (ci := 4) (v := .int 0) (C := RX3) (T := TX3) (N := 7) hx hb hts im_X8_legs_X3 hown hE.1 hP 1 rfl rfl 6 (by decide) (hts (.fieldLink RX8 56 "RiverBridges$River" "minute" "I") (by decide +kernel)) (fun _ h9 => h9) rfl dX8_legs_4 ?_
  refine lv_if_ne (tgt := 20) hx hb dX8_legs_7 (by decide) (fun c9 => absurd (by decide) c9) (fun _ => ?_)
  refine lv_iload_n hx hb dX8_legs_10 rfl (lv_at hl 1 rfl) ?_
  refine lv_iconst (v := 1) hx hb dX8_legs_11 (by decide) ?_
  refine lv_bipush (v := 30) hx hb dX8_legs_12 (by decide) ?_
  refine ss_calli (ws := [(rb, .inr (9, [.ref rd, .ref tp, .ref rv, .ref sp, .int 0])), (rv, .inr (4, [.ref td, .ref br, .ref sh, .ref ke, .ref tt, .int 5, .int 0]))]) (wc := []) (wr := [(rb, .inr (9, [.ref rd, .ref tp, .ref rv, .ref sp, .int 0])), (rv, .inr (4, [.ref td, .ref br, .ref sh, .ref ke, .ref tt, .int 5, .int 0]))]) [] [0, 1] (va_runS (As := [.int n, .int 1, .int 30]) (rest := []) ⟨hx, hb, hml, hown, hts⟩ (c_isWithin l D cI cZ cB cO cJ a0 s.heap.size n 1 30) (cwS 3 hts gX8_legs_X8_isWithin rfl rfl rfl (by decide +kernel) ⟨Nat.le_of_ble_eq_true rfl, Nat.le_of_ble_eq_true rfl⟩) (preS_std (wc := []) [] hE hZ hA hS hP hD rfl (by decide)) rfl rfl hl.1 rfl (lv_room (Nat.le_of_ble_eq_true rfl)) dX8_legs_14 ⟨Nat.le_of_ble_eq_true rfl, Nat.le_of_ble_eq_true rfl⟩) hP hD hS hA rfl rfl (by decide) (by decide) (fun r1 u H locs hw hP hD hS => ?_)
  try dsimp only at hw
  subst hw
  have hP : va_P D vwCl [(rb, .inr (9, [.ref rd, .ref tp, .ref rv, .ref sp, .int 0])), (rv, .inr (4, [.ref td, .ref br, .ref sh, .ref ke, .ref tt, .int 5, .int 0]))] H := hP
  have hD : va_D A [(rb, .inr (9, [.ref rd, .ref tp, .ref rv, .ref sp, .int 0])), (rv, .inr (4, [.ref td, .ref br, .ref sh, .ref ke, .ref tt, .int 5, .int 0]))] := hD
  refine lv_if_ne (tgt := 22) hx hb dX8_legs_17 (by decide) (fun ca => ?_) (fun ca => ?_)
  · refine lv_aload_n hx hb dX8_legs_22 rfl (lv_at hl 0 rfl) ?_
    refine va_get (D := D) (ci := 9) (v := .ref rv) (C := RX8) (T := TX8) (N := 5) hx hb hts im_X8_legs_X8 hown hE.1 hP 0 rfl rfl 2 (by decide) (hts (.fieldLink RX8 24 "RiverBridges" "river" "LRiverBridges$River;") (by decide +kernel)) (fun _ h9 => h9) rfl dX8_legs_23 ?_
    refine lv_iload_n hx hb dX8_legs_26 rfl (lv_at hl 1 rfl) ?_
    refine va_put (D := D) (ci := 4) (v := .int n) (ty := .int) (C := RX3) (T := TX3) (N := 7) hx hb hts im_X8_legs_X3 tyX3 tyX3_ok nmX3 hown hE.1 hP hD hS 1 rfl rfl 5 (by decide) (hts (.fieldLink RX8 112 "RiverBridges$River" "legMinutes" "I") (by decide +kernel)) (fun _ h9 => h9) rfl (by decide +kernel) rfl rfl (Nat.le_of_ble_eq_true rfl) dX8_legs_27 (fun H locs hP hD hS => ?_)
    have hP : va_P D vwCl [(rb, .inr (9, [.ref rd, .ref tp, .ref rv, .ref sp, .int 0])), (rv, .inr (4, [.ref td, .ref br, .ref sh, .ref ke, .ref tt, .int n, .int 0]))] H := hP
    have hD : va_D A [(rb, .inr (9, [.ref rd, .ref tp, .ref rv, .ref sp, .int 0])), (rv, .inr (4, [.ref td, .ref br, .ref sh, .ref ke, .ref tt, .int n, .int 0]))] := hD
    refine lv_iconst (v := 1) hx hb dX8_legs_30 (by decide) ?_
    have hP9 := hP.sub (ws' := []) [] rfl
    have hD9 := hD.sub (ws' := []) [] (by decide) rfl
    exact ss_zret () hx hb hr hlocks (by decide) hP9 hD9 hS (by unfold fM; rw [if_neg ca]) (Nat.le_of_ble_eq_true rfl) (Nat.le_of_ble_eq_true rfl) dX8_legs_31
  · refine lv_iconst (v := 0) hx hb dX8_legs_20 (by decide) ?_
    have hP9 := hP.sub (ws' := []) [] rfl
    have hD9 := hD.sub (ws' := []) [] (by decide) rfl
    exact ss_zret () hx hb hr hlocks (by decide) hP9 hD9 hS (by unfold fM; rw [if_pos ca]) (Nat.le_of_ble_eq_true rfl) (Nat.le_of_ble_eq_true rfl) dX8_legs_21

theorem im_X8_ship_X3 : ∀ w ∈ wsX30, w ∈ wsX8_ship := fun _ h => List.mem_cons_of_mem _ (List.mem_append_left _ (List.mem_append_left _ (List.mem_append_right _ h)))
theorem im_X8_ship_X8 : ∀ w ∈ wsX80, w ∈ wsX8_ship := fun _ h => List.mem_cons_of_mem _ (List.mem_append_left _ (List.mem_append_left _ (List.mem_append_left _ (List.mem_append_right _ h))))
set_option maxHeartbeats 400000 in
set_option maxRecDepth 100000 in
theorem c_ship (l : Launch) (D : va_G) (cI cZ cB cO cJ : ClassId) (a0 : Nat) (sz : Nat) (rb rd tp rv sp td br sh ke tt : Nat) (a b d : Int32)  : Met l yX8_ship wsX8_ship ({ frames := 1, cells := 0, slots := 0, locals := 20 }) (Pcs D cI cZ cB cO cJ a0 [.ref rb, .int a, .int b, .int d] [(rb, .inr (9, [.ref rd, .ref tp, .ref rv, .ref sp, .int 0])), (rv, .inr (4, [.ref td, .ref br, .ref sh, .ref ke, .ref tt, .int 5, .int 0])), (br, .inr (0, [.int 0, .ref a0, .int 0]))] sz) (va_Qi (fun (r : Int32) (u : Unit) => r = -1) (fun (u : Unit) t => va_P D vwCl [] t.heap ∧ va_D (va_A [(rb, .inr (9, [.ref rd, .ref tp, .ref rv, .ref sp, .int 0])), (rv, .inr (4, [.ref td, .ref br, .ref sh, .ref ke, .ref tt, .int 5, .int 0])), (br, .inr (0, [.int 0, .ref a0, .int 0]))] sz) []) (va_A [(rb, .inr (9, [.ref rd, .ref tp, .ref rv, .ref sp, .int 0])), (rv, .inr (4, [.ref td, .ref br, .ref sh, .ref ke, .ref tt, .int 5, .int 0])), (br, .inr (0, [.int 0, .ref a0, .int 0]))] sz)) 0 0 (va_A [(rb, .inr (9, [.ref rd, .ref tp, .ref rv, .ref sp, .int 0])), (rv, .inr (4, [.ref td, .ref br, .ref sh, .ref ke, .ref tt, .int 5, .int 0])), (br, .inr (0, [.int 0, .ref a0, .int 0]))] sz) := by
  refine Met.ofW (cc := cX8_ship) (maxL := 4) (ret := (some .int)) (by decide) rfl ?_
  intro p e s m args below meth c s₁ B hml hv
  obtain ⟨rfl, hsz, hP, hE, hD0, hZ⟩ := hv
  have hx := B.exec
  have hb := B.bytes
  have hr := B.returns
  have hts := atoms_spec (ws := wsX8_ship) B.pre
  have hown : s.vm.findClass RX8 = some m.cls := findClass_of_methodNamed B.named
  have hlocks := B.notSynchronized
  have hin := (name_of_methodNamed B.named B.method).1
  subst hsz
  have hD := hD0.self (sz := s.heap.size)
  generalize hAe : va_A [(rb, .inr (9, [.ref rd, .ref tp, .ref rv, .ref sp, .int 0])), (rv, .inr (4, [.ref td, .ref br, .ref sh, .ref ke, .ref tt, .int 5, .int 0])), (br, .inr (0, [.int 0, .ref a0, .int 0]))] s.heap.size = A at hD hZ ⊢
  have hA : ∀ q : Nat, s.heap.size ≤ q → A q := fun q h => by rw [← hAe]; exact Or.inr h
  have hS : va_S A s.heap s.heap [] := va_S.rf
  have hP : va_P D vwCl [(rb, .inr (9, [.ref rd, .ref tp, .ref rv, .ref sp, .int 0])), (rv, .inr (4, [.ref td, .ref br, .ref sh, .ref ke, .ref tt, .int 5, .int 0])), (br, .inr (0, [.int 0, .ref a0, .int 0]))] s.heap := hP
  have hl := lv_entry ([.ref rb, .int a, .int b, .int d]) (n := 4) (Nat.le_of_ble_eq_true rfl)
  rw [lg_entry_eq]
  generalize (lg_sl ([.ref rb, .int a, .int b, .int d]) ++ List.replicate (4 - (lg_sl ([.ref rb, .int a, .int b, .int d])).length) Slot.unset).toArray = ls at hl ⊢
  have hl : lv_has ls 4 [(0, .ref rb), (1, .int a), (2, .int b), (3, .int d)] := hl
  refine lv_aload_n hx hb dX8_ship_0 rfl (lv_at hl 0 rfl) ?_
  refine va_get (D := D) (ci := 9) (v := .ref rv) (C := RX8) (T := TX8) (N := 5) hx hb hts im_X8_ship_X8 hown hE.1 hP 0 rfl rfl 2 (by decide) (hts (.fieldLink RX8 24 "RiverBridges" "river" "LRiverBridges$River;") (by decide +kernel)) (fun _ h9 => h9) rfl dX8_ship_1 ?_
  refine va_get (D := D) (ci := 4) (v := .ref br) (C := RX3) (T := TX3) (N := 7) hx hb hts im_X8_ship_X3 hown hE.1 hP 1 rfl rfl 1 (by decide) (hts (.fieldLink RX8 59 "RiverBridges$River" "bridges" "Ljava/util/ArrayList;") (by decide +kernel)) (fun _ h9 => h9) rfl dX8_ship_4 ?_
  refine ss_calli (ws := [(rb, .inr (9, [.ref rd, .ref tp, .ref rv, .ref sp, .int 0])), (rv, .inr (4, [.ref td, .ref br, .ref sh, .ref ke, .ref tt, .int 5, .int 0])), (br, .inr (0, [.int 0, .ref a0, .int 0]))]) (wc := [(br, .inr (0, [.int 0, .ref a0, .int 0]))]) (wr := [(rb, .inr (9, [.ref rd, .ref tp, .ref rv, .ref sp, .int 0])), (rv, .inr (4, [.ref td, .ref br, .ref sh, .ref ke, .ref tt, .int 5, .int 0]))]) [2] [0, 1] (va_runV (As := []) (rest := []) ⟨hx, hb, hml, hown, hts⟩ (c_AL_isEmpty l D cI cZ cB cO cJ a0 s.heap.size br a0 0) (cwV 0 hts gX8_ship_Jx4a65c_isEmpty_aae02 rfl rfl rfl (by decide +kernel) ⟨Nat.le_of_ble_eq_true rfl, Nat.le_of_ble_eq_true rfl⟩) (preV_std (wc := [(br, .inr (0, [.int 0, .ref a0, .int 0]))]) [2] hE hZ hA hS hP hD rfl (by decide) (fun h9 => va_recv hE.1 h9 (ci := 0) (q0 := 0) rfl rfl)) rfl rfl hl.1 rfl (lv_room (Nat.le_of_ble_eq_true rfl)) dX8_ship_7 ⟨Nat.le_of_ble_eq_true rfl, Nat.le_of_ble_eq_true rfl⟩) hP hD hS hA rfl rfl (by decide) (by decide) (fun r1 u H locs hw hP hD hS => ?_)
  try dsimp only at hw
  subst hw
  have hP : va_P D vwCl [(rb, .inr (9, [.ref rd, .ref tp, .ref rv, .ref sp, .int 0])), (rv, .inr (4, [.ref td, .ref br, .ref sh, .ref ke, .ref tt, .int 5, .int 0])), (br, .inr (0, [.int 0, .ref a0, .int 0]))] H := hP
  have hD : va_D A [(rb, .inr (9, [.ref rd, .ref tp, .ref rv, .ref sp, .int 0])), (rv, .inr (4, [.ref td, .ref br, .ref sh, .ref ke, .ref tt, .int 5, .int 0])), (br, .inr (0, [.int 0, .ref a0, .int 0]))] := hD
  refine lv_if_ne (tgt := 28) hx hb dX8_ship_10 (by decide) (fun _ => ?_) (fun c9 => absurd c9 (by decide))
  refine lv_iconst (v := -1) hx hb dX8_ship_28 (by decide) ?_
  have hP9 := hP.sub (ws' := []) [] rfl
  have hD9 := hD.sub (ws' := []) [] (by decide) rfl
  exact ss_iret () hx hb hr hlocks hP9 hD9 hS (rfl) (Nat.le_of_ble_eq_true rfl) (Nat.le_of_ble_eq_true rfl) dX8_ship_29

theorem im_X8_level_X3 : ∀ w ∈ wsX30, w ∈ wsX8_level := fun _ h => List.mem_cons_of_mem _ (List.mem_append_left _ (List.mem_append_right _ h))
theorem im_X8_level_X8 : ∀ w ∈ wsX80, w ∈ wsX8_level := fun _ h => List.mem_cons_of_mem _ (List.mem_append_left _ (List.mem_append_left _ (List.mem_append_right _ h)))
set_option maxHeartbeats 400000 in
set_option maxRecDepth 100000 in
theorem c_level (l : Launch) (D : va_G) (cI cZ cB cO cJ : ClassId) (a0 : Nat) (sz : Nat) (rb rd tp rv sp td lv br sh ke tt : Nat) (n : Int32)  : Met l yX8_level wsX8_level ({ frames := 1, cells := 0, slots := 0, locals := 23 }) (Pcs D cI cZ cB cO cJ a0 [.ref rb, .int n] [(rb, .inr (9, [.ref rd, .ref tp, .ref rv, .ref sp, .int 0])), (rv, .inr (4, [.ref td, .ref br, .ref sh, .ref ke, .ref tt, .int 5, .int 0])), (td, .inr (7, [.ref lv])), (lv, .inl (cI, 25, .inl (fun _ => 0)))] sz) (va_Qi (fun (r : Int32) (u : Unit) => r = fL n) (fun (u : Unit) t => va_P D vwCl [] t.heap ∧ va_D (va_A [(rb, .inr (9, [.ref rd, .ref tp, .ref rv, .ref sp, .int 0])), (rv, .inr (4, [.ref td, .ref br, .ref sh, .ref ke, .ref tt, .int 5, .int 0])), (td, .inr (7, [.ref lv])), (lv, .inl (cI, 25, .inl (fun _ => 0)))] sz) []) (va_A [(rb, .inr (9, [.ref rd, .ref tp, .ref rv, .ref sp, .int 0])), (rv, .inr (4, [.ref td, .ref br, .ref sh, .ref ke, .ref tt, .int 5, .int 0])), (td, .inr (7, [.ref lv])), (lv, .inl (cI, 25, .inl (fun _ => 0)))] sz)) 0 0 (va_A [(rb, .inr (9, [.ref rd, .ref tp, .ref rv, .ref sp, .int 0])), (rv, .inr (4, [.ref td, .ref br, .ref sh, .ref ke, .ref tt, .int 5, .int 0])), (td, .inr (7, [.ref lv])), (lv, .inl (cI, 25, .inl (fun _ => 0)))] sz) := by
  refine Met.ofW (cc := cX8_level) (maxL := 2) (ret := (some .int)) (by decide) rfl ?_
  intro p e s m args below meth c s₁ B hml hv
  obtain ⟨rfl, hsz, hP, hE, hD0, hZ⟩ := hv
  have hx := B.exec
  have hb := B.bytes
  have hr := B.returns
  have hts := atoms_spec (ws := wsX8_level) B.pre
  have hown : s.vm.findClass RX8 = some m.cls := findClass_of_methodNamed B.named
  have hlocks := B.notSynchronized
  have hin := (name_of_methodNamed B.named B.method).1
  subst hsz
  have hD := hD0.self (sz := s.heap.size)
  generalize hAe : va_A [(rb, .inr (9, [.ref rd, .ref tp, .ref rv, .ref sp, .int 0])), (rv, .inr (4, [.ref td, .ref br, .ref sh, .ref ke, .ref tt, .int 5, .int 0])), (td, .inr (7, [.ref lv])), (lv, .inl (cI, 25, .inl (fun _ => 0)))] s.heap.size = A at hD hZ ⊢
  have hA : ∀ q : Nat, s.heap.size ≤ q → A q := fun q h => by rw [← hAe]; exact Or.inr h
  have hS : va_S A s.heap s.heap [] := va_S.rf
  have hP : va_P D vwCl [(rb, .inr (9, [.ref rd, .ref tp, .ref rv, .ref sp, .int 0])), (rv, .inr (4, [.ref td, .ref br, .ref sh, .ref ke, .ref tt, .int 5, .int 0])), (td, .inr (7, [.ref lv])), (lv, .inl (cI, 25, .inl (fun _ => 0)))] s.heap := hP
  have hl := lv_entry ([.ref rb, .int n]) (n := 2) (Nat.le_of_ble_eq_true rfl)
  rw [lg_entry_eq]
  generalize (lg_sl ([.ref rb, .int n]) ++ List.replicate (2 - (lg_sl ([.ref rb, .int n])).length) Slot.unset).toArray = ls at hl ⊢
  have hl : lv_has ls 2 [(0, .ref rb), (1, .int n)] := hl
  refine lv_iload_n hx hb dX8_level_0 rfl (lv_at hl 1 rfl) ?_
  refine lv_iconst (v := 0) hx hb dX8_level_1 (by decide) ?_
  refine lv_sipush (v := 1440) hx hb dX8_level_2 (by decide) ?_
  refine ss_calli (ws := [(rb, .inr (9, [.ref rd, .ref tp, .ref rv, .ref sp, .int 0])), (rv, .inr (4, [.ref td, .ref br, .ref sh, .ref ke, .ref tt, .int 5, .int 0])), (td, .inr (7, [.ref lv])), (lv, .inl (cI, 25, .inl (fun _ => 0)))]) (wc := []) (wr := [(rb, .inr (9, [.ref rd, .ref tp, .ref rv, .ref sp, .int 0])), (rv, .inr (4, [.ref td, .ref br, .ref sh, .ref ke, .ref tt, .int 5, .int 0])), (td, .inr (7, [.ref lv])), (lv, .inl (cI, 25, .inl (fun _ => 0)))]) [] [0, 1, 2, 3] (va_runS (As := [.int n, .int 0, .int 1440]) (rest := []) ⟨hx, hb, hml, hown, hts⟩ (c_isWithin l D cI cZ cB cO cJ a0 s.heap.size n 0 1440) (cwS 3 hts gX8_level_X8_isWithin rfl rfl rfl (by decide +kernel) ⟨Nat.le_of_ble_eq_true rfl, Nat.le_of_ble_eq_true rfl⟩) (preS_std (wc := []) [] hE hZ hA hS hP hD rfl (by decide)) rfl rfl hl.1 rfl (lv_room (Nat.le_of_ble_eq_true rfl)) dX8_level_5 ⟨Nat.le_of_ble_eq_true rfl, Nat.le_of_ble_eq_true rfl⟩) hP hD hS hA rfl rfl (by decide) (by decide) (fun r1 u H locs hw hP hD hS => ?_)
  try dsimp only at hw
  subst hw
  have hP : va_P D vwCl [(rb, .inr (9, [.ref rd, .ref tp, .ref rv, .ref sp, .int 0])), (rv, .inr (4, [.ref td, .ref br, .ref sh, .ref ke, .ref tt, .int 5, .int 0])), (td, .inr (7, [.ref lv])), (lv, .inl (cI, 25, .inl (fun _ => 0)))] H := hP
  have hD : va_D A [(rb, .inr (9, [.ref rd, .ref tp, .ref rv, .ref sp, .int 0])), (rv, .inr (4, [.ref td, .ref br, .ref sh, .ref ke, .ref tt, .int 5, .int 0])), (td, .inr (7, [.ref lv])), (lv, .inl (cI, 25, .inl (fun _ => 0)))] := hD
  refine lv_if_eq (tgt := 25) hx hb dX8_level_8 (by decide) (fun ca => ?_) (fun ca => ?_)
  · refine lv_iconst (v := -1) hx hb dX8_level_25 (by decide) ?_
    have hP9 := hP.sub (ws' := []) [] rfl
    have hD9 := hD.sub (ws' := []) [] (by decide) rfl
    exact ss_iret () hx hb hr hlocks hP9 hD9 hS (by unfold fL; rw [if_pos ca]) (Nat.le_of_ble_eq_true rfl) (Nat.le_of_ble_eq_true rfl) dX8_level_26
  · refine lv_aload_n hx hb dX8_level_11 rfl (lv_at hl 0 rfl) ?_
    refine va_get (D := D) (ci := 9) (v := .ref rv) (C := RX8) (T := TX8) (N := 5) hx hb hts im_X8_level_X8 hown hE.1 hP 0 rfl rfl 2 (by decide) (hts (.fieldLink RX8 24 "RiverBridges" "river" "LRiverBridges$River;") (by decide +kernel)) (fun _ h9 => h9) rfl dX8_level_12 ?_
    refine va_get (D := D) (ci := 4) (v := .ref td) (C := RX3) (T := TX3) (N := 7) hx hb hts im_X8_level_X3 hown hE.1 hP 1 rfl rfl 0 (by decide) (hts (.fieldLink RX8 77 "RiverBridges$River" "tide" "LRiverBridges$Tide;") (by decide +kernel)) (fun _ h9 => h9) rfl dX8_level_15 ?_
    refine lv_iload_n hx hb dX8_level_18 rfl (lv_at hl 1 rfl) ?_
    obtain ⟨k, hk, hn⟩ := wt_nI (M := 1440) (by decide) ca
    refine ss_calli (ws := [(rb, .inr (9, [.ref rd, .ref tp, .ref rv, .ref sp, .int 0])), (rv, .inr (4, [.ref td, .ref br, .ref sh, .ref ke, .ref tt, .int 5, .int 0])), (td, .inr (7, [.ref lv])), (lv, .inl (cI, 25, .inl (fun _ => 0)))]) (wc := [(td, .inr (7, [.ref lv])), (lv, .inl (cI, 25, .inl (fun _ => 0)))]) (wr := [(rb, .inr (9, [.ref rd, .ref tp, .ref rv, .ref sp, .int 0])), (rv, .inr (4, [.ref td, .ref br, .ref sh, .ref ke, .ref tt, .int 5, .int 0]))]) [2, 3] [0, 1] (va_runV (As := [.int n]) (rest := []) ⟨hx, hb, hml, hown, hts⟩ (c_Tide_levelIn l D cI cZ cB cO cJ a0 H.size td lv k n hk hn) (cwV 1 hts gX8_level_X6_levelIn rfl rfl rfl (by decide +kernel) ⟨Nat.le_of_ble_eq_true rfl, Nat.le_of_ble_eq_true rfl⟩) (preV_std (wc := [(td, .inr (7, [.ref lv])), (lv, .inl (cI, 25, .inl (fun _ => 0)))]) [2, 3] hE hZ hA hS hP hD rfl (by decide) (fun h9 => va_recv hE.1 h9 (ci := 7) (q0 := 0) rfl rfl)) rfl rfl hl.1 rfl (lv_room (Nat.le_of_ble_eq_true rfl)) dX8_level_19 ⟨Nat.le_of_ble_eq_true rfl, Nat.le_of_ble_eq_true rfl⟩) hP hD hS hA rfl rfl (by decide) (by decide) (fun r2 u H locs hw hP hD hS => ?_)
    try dsimp only at hw
    subst hw
    have hP : va_P D vwCl [(rb, .inr (9, [.ref rd, .ref tp, .ref rv, .ref sp, .int 0])), (rv, .inr (4, [.ref td, .ref br, .ref sh, .ref ke, .ref tt, .int 5, .int 0])), (td, .inr (7, [.ref lv])), (lv, .inl (cI, 25, .inl (fun _ => 0)))] H := hP
    have hD : va_D A [(rb, .inr (9, [.ref rd, .ref tp, .ref rv, .ref sp, .int 0])), (rv, .inr (4, [.ref td, .ref br, .ref sh, .ref ke, .ref tt, .int 5, .int 0])), (td, .inr (7, [.ref lv])), (lv, .inl (cI, 25, .inl (fun _ => 0)))] := hD
    refine lv_goto (tgt := 26) hx hb dX8_level_22 (by decide) ?_
    have hP9 := hP.sub (ws' := []) [] rfl
    have hD9 := hD.sub (ws' := []) [] (by decide) rfl
    exact ss_iret () hx hb hr hlocks hP9 hD9 hS (by unfold fL; rw [if_neg ca]) (Nat.le_of_ble_eq_true rfl) (Nat.le_of_ble_eq_true rfl) dX8_level_26

set_option maxHeartbeats 400000 in
set_option maxRecDepth 100000 in
theorem c_barred (l : Launch) (D : va_G) (cI cZ cB cO cJ : ClassId) (a0 : Nat) (sz : Nat) (rb rd tp rv sp td br sh ke tt : Nat) (b d : Int32)  : Met l yX8_barred wsX8_barred ({ frames := 2, cells := 0, slots := 0, locals := 43 }) (Pcs D cI cZ cB cO cJ a0 [.ref rb, .int b, .int d] [(rb, .inr (9, [.ref rd, .ref tp, .ref rv, .ref sp, .int 0])), (rv, .inr (4, [.ref td, .ref br, .ref sh, .ref ke, .ref tt, .int 5, .int 0])), (br, .inr (0, [.int 0, .ref a0, .int 0]))] sz) (va_Qi (fun (r : Int32) (u : Unit) => r = -1) (fun (u : Unit) t => va_P D vwCl [] t.heap ∧ va_D (va_A [(rb, .inr (9, [.ref rd, .ref tp, .ref rv, .ref sp, .int 0])), (rv, .inr (4, [.ref td, .ref br, .ref sh, .ref ke, .ref tt, .int 5, .int 0])), (br, .inr (0, [.int 0, .ref a0, .int 0]))] sz) []) (va_A [(rb, .inr (9, [.ref rd, .ref tp, .ref rv, .ref sp, .int 0])), (rv, .inr (4, [.ref td, .ref br, .ref sh, .ref ke, .ref tt, .int 5, .int 0])), (br, .inr (0, [.int 0, .ref a0, .int 0]))] sz)) 0 0 (va_A [(rb, .inr (9, [.ref rd, .ref tp, .ref rv, .ref sp, .int 0])), (rv, .inr (4, [.ref td, .ref br, .ref sh, .ref ke, .ref tt, .int 5, .int 0])), (br, .inr (0, [.int 0, .ref a0, .int 0]))] sz) := by
  refine Met.ofW (cc := cX8_barred) (maxL := 3) (ret := (some .int)) (by decide) rfl ?_
  intro p e s m args below meth c s₁ B hml hv
  obtain ⟨rfl, hsz, hP, hE, hD0, hZ⟩ := hv
  have hx := B.exec
  have hb := B.bytes
  have hr := B.returns
  have hts := atoms_spec (ws := wsX8_barred) B.pre
  have hown : s.vm.findClass RX8 = some m.cls := findClass_of_methodNamed B.named
  have hlocks := B.notSynchronized
  have hin := (name_of_methodNamed B.named B.method).1
  subst hsz
  have hD := hD0.self (sz := s.heap.size)
  generalize hAe : va_A [(rb, .inr (9, [.ref rd, .ref tp, .ref rv, .ref sp, .int 0])), (rv, .inr (4, [.ref td, .ref br, .ref sh, .ref ke, .ref tt, .int 5, .int 0])), (br, .inr (0, [.int 0, .ref a0, .int 0]))] s.heap.size = A at hD hZ ⊢
  have hA : ∀ q : Nat, s.heap.size ≤ q → A q := fun q h => by rw [← hAe]; exact Or.inr h
  have hS : va_S A s.heap s.heap [] := va_S.rf
  have hP : va_P D vwCl [(rb, .inr (9, [.ref rd, .ref tp, .ref rv, .ref sp, .int 0])), (rv, .inr (4, [.ref td, .ref br, .ref sh, .ref ke, .ref tt, .int 5, .int 0])), (br, .inr (0, [.int 0, .ref a0, .int 0]))] s.heap := hP
  have hl := lv_entry ([.ref rb, .int b, .int d]) (n := 3) (Nat.le_of_ble_eq_true rfl)
  rw [lg_entry_eq]
  generalize (lg_sl ([.ref rb, .int b, .int d]) ++ List.replicate (3 - (lg_sl ([.ref rb, .int b, .int d])).length) Slot.unset).toArray = ls at hl ⊢
  have hl : lv_has ls 3 [(0, .ref rb), (1, .int b), (2, .int d)] := hl
  refine lv_aload_n hx hb dX8_barred_0 rfl (lv_at hl 0 rfl) ?_
  refine lv_iload_n hx hb dX8_barred_1 rfl (lv_at hl 1 rfl) ?_
  refine ss_calli (ws := [(rb, .inr (9, [.ref rd, .ref tp, .ref rv, .ref sp, .int 0])), (rv, .inr (4, [.ref td, .ref br, .ref sh, .ref ke, .ref tt, .int 5, .int 0])), (br, .inr (0, [.int 0, .ref a0, .int 0]))]) (wc := [(rb, .inr (9, [.ref rd, .ref tp, .ref rv, .ref sp, .int 0])), (rv, .inr (4, [.ref td, .ref br, .ref sh, .ref ke, .ref tt, .int 5, .int 0])), (br, .inr (0, [.int 0, .ref a0, .int 0]))]) (wr := []) [0, 1, 2] [] (va_runV (As := [.int b]) (rest := []) ⟨hx, hb, hml, hown, hts⟩ (c_isBridge l D cI cZ cB cO cJ a0 s.heap.size rb rd tp rv sp td br sh ke tt b) (cwV 1 hts gX8_barred_X8_isBridge rfl rfl rfl (by decide +kernel) ⟨Nat.le_of_ble_eq_true rfl, Nat.le_of_ble_eq_true rfl⟩) (preV_std (wc := [(rb, .inr (9, [.ref rd, .ref tp, .ref rv, .ref sp, .int 0])), (rv, .inr (4, [.ref td, .ref br, .ref sh, .ref ke, .ref tt, .int 5, .int 0])), (br, .inr (0, [.int 0, .ref a0, .int 0]))]) [0, 1, 2] hE hZ hA hS hP hD rfl (by decide) (fun h9 => va_recv hE.1 h9 (ci := 9) (q0 := 0) rfl rfl)) rfl rfl hl.1 rfl (lv_room (Nat.le_of_ble_eq_true rfl)) dX8_barred_2 ⟨Nat.le_of_ble_eq_true rfl, Nat.le_of_ble_eq_true rfl⟩) hP hD hS hA rfl rfl (by decide) (by decide) (fun r1 u H locs hw hP hD hS => ?_)
  try dsimp only at hw
  subst hw
  have hP : va_P D vwCl [(rb, .inr (9, [.ref rd, .ref tp, .ref rv, .ref sp, .int 0])), (rv, .inr (4, [.ref td, .ref br, .ref sh, .ref ke, .ref tt, .int 5, .int 0])), (br, .inr (0, [.int 0, .ref a0, .int 0]))] H := hP
  have hD : va_D A [(rb, .inr (9, [.ref rd, .ref tp, .ref rv, .ref sp, .int 0])), (rv, .inr (4, [.ref td, .ref br, .ref sh, .ref ke, .ref tt, .int 5, .int 0])), (br, .inr (0, [.int 0, .ref a0, .int 0]))] := hD
  refine lv_if_eq (tgt := 19) hx hb dX8_barred_5 (by decide) (fun _ => ?_) (fun c9 => absurd (by decide) c9)
  refine lv_iconst (v := -1) hx hb dX8_barred_19 (by decide) ?_
  have hP9 := hP.sub (ws' := []) [] rfl
  have hD9 := hD.sub (ws' := []) [] (by decide) rfl
  exact ss_iret () hx hb hr hlocks hP9 hD9 hS (rfl) (Nat.le_of_ble_eq_true rfl) (Nat.le_of_ble_eq_true rfl) dX8_barred_20

set_option maxHeartbeats 400000 in
set_option maxRecDepth 100000 in
theorem c_about (l : Launch) (D : va_G) (cI cZ cB cO cJ : ClassId) (a0 : Nat) (sz : Nat) (rb rd tp rv sp td br sh ke tt : Nat) (b d : Int32)  : Met l yX8_about wsX8_about ({ frames := 2, cells := 0, slots := 0, locals := 43 }) (Pcs D cI cZ cB cO cJ a0 [.ref rb, .int b, .int d] [(rb, .inr (9, [.ref rd, .ref tp, .ref rv, .ref sp, .int 0])), (rv, .inr (4, [.ref td, .ref br, .ref sh, .ref ke, .ref tt, .int 5, .int 0])), (br, .inr (0, [.int 0, .ref a0, .int 0]))] sz) (va_Qi (fun (r : Int32) (u : Unit) => r = -1) (fun (u : Unit) t => va_P D vwCl [] t.heap ∧ va_D (va_A [(rb, .inr (9, [.ref rd, .ref tp, .ref rv, .ref sp, .int 0])), (rv, .inr (4, [.ref td, .ref br, .ref sh, .ref ke, .ref tt, .int 5, .int 0])), (br, .inr (0, [.int 0, .ref a0, .int 0]))] sz) []) (va_A [(rb, .inr (9, [.ref rd, .ref tp, .ref rv, .ref sp, .int 0])), (rv, .inr (4, [.ref td, .ref br, .ref sh, .ref ke, .ref tt, .int 5, .int 0])), (br, .inr (0, [.int 0, .ref a0, .int 0]))] sz)) 0 0 (va_A [(rb, .inr (9, [.ref rd, .ref tp, .ref rv, .ref sp, .int 0])), (rv, .inr (4, [.ref td, .ref br, .ref sh, .ref ke, .ref tt, .int 5, .int 0])), (br, .inr (0, [.int 0, .ref a0, .int 0]))] sz) := by
  refine Met.ofW (cc := cX8_about) (maxL := 3) (ret := (some .int)) (by decide) rfl ?_
  intro p e s m args below meth c s₁ B hml hv
  obtain ⟨rfl, hsz, hP, hE, hD0, hZ⟩ := hv
  have hx := B.exec
  have hb := B.bytes
  have hr := B.returns
  have hts := atoms_spec (ws := wsX8_about) B.pre
  have hown : s.vm.findClass RX8 = some m.cls := findClass_of_methodNamed B.named
  have hlocks := B.notSynchronized
  have hin := (name_of_methodNamed B.named B.method).1
  subst hsz
  have hD := hD0.self (sz := s.heap.size)
  generalize hAe : va_A [(rb, .inr (9, [.ref rd, .ref tp, .ref rv, .ref sp, .int 0])), (rv, .inr (4, [.ref td, .ref br, .ref sh, .ref ke, .ref tt, .int 5, .int 0])), (br, .inr (0, [.int 0, .ref a0, .int 0]))] s.heap.size = A at hD hZ ⊢
  have hA : ∀ q : Nat, s.heap.size ≤ q → A q := fun q h => by rw [← hAe]; exact Or.inr h
  have hS : va_S A s.heap s.heap [] := va_S.rf
  have hP : va_P D vwCl [(rb, .inr (9, [.ref rd, .ref tp, .ref rv, .ref sp, .int 0])), (rv, .inr (4, [.ref td, .ref br, .ref sh, .ref ke, .ref tt, .int 5, .int 0])), (br, .inr (0, [.int 0, .ref a0, .int 0]))] s.heap := hP
  have hl := lv_entry ([.ref rb, .int b, .int d]) (n := 3) (Nat.le_of_ble_eq_true rfl)
  rw [lg_entry_eq]
  generalize (lg_sl ([.ref rb, .int b, .int d]) ++ List.replicate (3 - (lg_sl ([.ref rb, .int b, .int d])).length) Slot.unset).toArray = ls at hl ⊢
  have hl : lv_has ls 3 [(0, .ref rb), (1, .int b), (2, .int d)] := hl
  refine lv_aload_n hx hb dX8_about_0 rfl (lv_at hl 0 rfl) ?_
  refine lv_iload_n hx hb dX8_about_1 rfl (lv_at hl 1 rfl) ?_
  refine ss_calli (ws := [(rb, .inr (9, [.ref rd, .ref tp, .ref rv, .ref sp, .int 0])), (rv, .inr (4, [.ref td, .ref br, .ref sh, .ref ke, .ref tt, .int 5, .int 0])), (br, .inr (0, [.int 0, .ref a0, .int 0]))]) (wc := [(rb, .inr (9, [.ref rd, .ref tp, .ref rv, .ref sp, .int 0])), (rv, .inr (4, [.ref td, .ref br, .ref sh, .ref ke, .ref tt, .int 5, .int 0])), (br, .inr (0, [.int 0, .ref a0, .int 0]))]) (wr := []) [0, 1, 2] [] (va_runV (As := [.int b]) (rest := []) ⟨hx, hb, hml, hown, hts⟩ (c_isBridge l D cI cZ cB cO cJ a0 s.heap.size rb rd tp rv sp td br sh ke tt b) (cwV 1 hts gX8_about_X8_isBridge rfl rfl rfl (by decide +kernel) ⟨Nat.le_of_ble_eq_true rfl, Nat.le_of_ble_eq_true rfl⟩) (preV_std (wc := [(rb, .inr (9, [.ref rd, .ref tp, .ref rv, .ref sp, .int 0])), (rv, .inr (4, [.ref td, .ref br, .ref sh, .ref ke, .ref tt, .int 5, .int 0])), (br, .inr (0, [.int 0, .ref a0, .int 0]))]) [0, 1, 2] hE hZ hA hS hP hD rfl (by decide) (fun h9 => va_recv hE.1 h9 (ci := 9) (q0 := 0) rfl rfl)) rfl rfl hl.1 rfl (lv_room (Nat.le_of_ble_eq_true rfl)) dX8_about_2 ⟨Nat.le_of_ble_eq_true rfl, Nat.le_of_ble_eq_true rfl⟩) hP hD hS hA rfl rfl (by decide) (by decide) (fun r1 u H locs hw hP hD hS => ?_)
  try dsimp only at hw
  subst hw
  have hP : va_P D vwCl [(rb, .inr (9, [.ref rd, .ref tp, .ref rv, .ref sp, .int 0])), (rv, .inr (4, [.ref td, .ref br, .ref sh, .ref ke, .ref tt, .int 5, .int 0])), (br, .inr (0, [.int 0, .ref a0, .int 0]))] H := hP
  have hD : va_D A [(rb, .inr (9, [.ref rd, .ref tp, .ref rv, .ref sp, .int 0])), (rv, .inr (4, [.ref td, .ref br, .ref sh, .ref ke, .ref tt, .int 5, .int 0])), (br, .inr (0, [.int 0, .ref a0, .int 0]))] := hD
  refine lv_if_eq (tgt := 29) hx hb dX8_about_5 (by decide) (fun _ => ?_) (fun c9 => absurd (by decide) c9)
  refine lv_iconst (v := -1) hx hb dX8_about_29 (by decide) ?_
  have hP9 := hP.sub (ws' := []) [] rfl
  have hD9 := hD.sub (ws' := []) [] (by decide) rfl
  exact ss_iret () hx hb hr hlocks hP9 hD9 hS (rfl) (Nat.le_of_ble_eq_true rfl) (Nat.le_of_ble_eq_true rfl) dX8_about_30

set_option maxHeartbeats 400000 in
set_option maxRecDepth 100000 in
theorem c_through (l : Launch) (D : va_G) (cI cZ cB cO cJ : ClassId) (a0 : Nat) (sz : Nat) (rb rd tp rv sp td br sh ke tt : Nat) (b d : Int32)  : Met l yX8_through wsX8_through ({ frames := 2, cells := 0, slots := 0, locals := 43 }) (Pcs D cI cZ cB cO cJ a0 [.ref rb, .int b, .int d] [(rb, .inr (9, [.ref rd, .ref tp, .ref rv, .ref sp, .int 0])), (rv, .inr (4, [.ref td, .ref br, .ref sh, .ref ke, .ref tt, .int 5, .int 0])), (sh, .inr (0, [.int 0, .ref a0, .int 0]))] sz) (va_Qi (fun (r : Int32) (u : Unit) => r = -1) (fun (u : Unit) t => va_P D vwCl [] t.heap ∧ va_D (va_A [(rb, .inr (9, [.ref rd, .ref tp, .ref rv, .ref sp, .int 0])), (rv, .inr (4, [.ref td, .ref br, .ref sh, .ref ke, .ref tt, .int 5, .int 0])), (sh, .inr (0, [.int 0, .ref a0, .int 0]))] sz) []) (va_A [(rb, .inr (9, [.ref rd, .ref tp, .ref rv, .ref sp, .int 0])), (rv, .inr (4, [.ref td, .ref br, .ref sh, .ref ke, .ref tt, .int 5, .int 0])), (sh, .inr (0, [.int 0, .ref a0, .int 0]))] sz)) 0 0 (va_A [(rb, .inr (9, [.ref rd, .ref tp, .ref rv, .ref sp, .int 0])), (rv, .inr (4, [.ref td, .ref br, .ref sh, .ref ke, .ref tt, .int 5, .int 0])), (sh, .inr (0, [.int 0, .ref a0, .int 0]))] sz) := by
  refine Met.ofW (cc := cX8_through) (maxL := 3) (ret := (some .int)) (by decide) rfl ?_
  intro p e s m args below meth c s₁ B hml hv
  obtain ⟨rfl, hsz, hP, hE, hD0, hZ⟩ := hv
  have hx := B.exec
  have hb := B.bytes
  have hr := B.returns
  have hts := atoms_spec (ws := wsX8_through) B.pre
  have hown : s.vm.findClass RX8 = some m.cls := findClass_of_methodNamed B.named
  have hlocks := B.notSynchronized
  have hin := (name_of_methodNamed B.named B.method).1
  subst hsz
  have hD := hD0.self (sz := s.heap.size)
  generalize hAe : va_A [(rb, .inr (9, [.ref rd, .ref tp, .ref rv, .ref sp, .int 0])), (rv, .inr (4, [.ref td, .ref br, .ref sh, .ref ke, .ref tt, .int 5, .int 0])), (sh, .inr (0, [.int 0, .ref a0, .int 0]))] s.heap.size = A at hD hZ ⊢
  have hA : ∀ q : Nat, s.heap.size ≤ q → A q := fun q h => by rw [← hAe]; exact Or.inr h
  have hS : va_S A s.heap s.heap [] := va_S.rf
  have hP : va_P D vwCl [(rb, .inr (9, [.ref rd, .ref tp, .ref rv, .ref sp, .int 0])), (rv, .inr (4, [.ref td, .ref br, .ref sh, .ref ke, .ref tt, .int 5, .int 0])), (sh, .inr (0, [.int 0, .ref a0, .int 0]))] s.heap := hP
  have hl := lv_entry ([.ref rb, .int b, .int d]) (n := 3) (Nat.le_of_ble_eq_true rfl)
  rw [lg_entry_eq]
  generalize (lg_sl ([.ref rb, .int b, .int d]) ++ List.replicate (3 - (lg_sl ([.ref rb, .int b, .int d])).length) Slot.unset).toArray = ls at hl ⊢
  have hl : lv_has ls 3 [(0, .ref rb), (1, .int b), (2, .int d)] := hl
  refine lv_aload_n hx hb dX8_through_0 rfl (lv_at hl 0 rfl) ?_
  refine lv_iload_n hx hb dX8_through_1 rfl (lv_at hl 1 rfl) ?_
  refine ss_calli (ws := [(rb, .inr (9, [.ref rd, .ref tp, .ref rv, .ref sp, .int 0])), (rv, .inr (4, [.ref td, .ref br, .ref sh, .ref ke, .ref tt, .int 5, .int 0])), (sh, .inr (0, [.int 0, .ref a0, .int 0]))]) (wc := [(rb, .inr (9, [.ref rd, .ref tp, .ref rv, .ref sp, .int 0])), (rv, .inr (4, [.ref td, .ref br, .ref sh, .ref ke, .ref tt, .int 5, .int 0])), (sh, .inr (0, [.int 0, .ref a0, .int 0]))]) (wr := []) [0, 1, 2] [] (va_runV (As := [.int b]) (rest := []) ⟨hx, hb, hml, hown, hts⟩ (c_isShip l D cI cZ cB cO cJ a0 s.heap.size rb rd tp rv sp td br sh ke tt b) (cwV 1 hts gX8_through_X8_isShip rfl rfl rfl (by decide +kernel) ⟨Nat.le_of_ble_eq_true rfl, Nat.le_of_ble_eq_true rfl⟩) (preV_std (wc := [(rb, .inr (9, [.ref rd, .ref tp, .ref rv, .ref sp, .int 0])), (rv, .inr (4, [.ref td, .ref br, .ref sh, .ref ke, .ref tt, .int 5, .int 0])), (sh, .inr (0, [.int 0, .ref a0, .int 0]))]) [0, 1, 2] hE hZ hA hS hP hD rfl (by decide) (fun h9 => va_recv hE.1 h9 (ci := 9) (q0 := 0) rfl rfl)) rfl rfl hl.1 rfl (lv_room (Nat.le_of_ble_eq_true rfl)) dX8_through_2 ⟨Nat.le_of_ble_eq_true rfl, Nat.le_of_ble_eq_true rfl⟩) hP hD hS hA rfl rfl (by decide) (by decide) (fun r1 u H locs hw hP hD hS => ?_)
  try dsimp only at hw
  subst hw
  have hP : va_P D vwCl [(rb, .inr (9, [.ref rd, .ref tp, .ref rv, .ref sp, .int 0])), (rv, .inr (4, [.ref td, .ref br, .ref sh, .ref ke, .ref tt, .int 5, .int 0])), (sh, .inr (0, [.int 0, .ref a0, .int 0]))] H := hP
  have hD : va_D A [(rb, .inr (9, [.ref rd, .ref tp, .ref rv, .ref sp, .int 0])), (rv, .inr (4, [.ref td, .ref br, .ref sh, .ref ke, .ref tt, .int 5, .int 0])), (sh, .inr (0, [.int 0, .ref a0, .int 0]))] := hD
  refine lv_if_eq (tgt := 38) hx hb dX8_through_5 (by decide) (fun _ => ?_) (fun c9 => absurd (by decide) c9)
  refine lv_iconst (v := -1) hx hb dX8_through_38 (by decide) ?_
  have hP9 := hP.sub (ws' := []) [] rfl
  have hD9 := hD.sub (ws' := []) [] (by decide) rfl
  exact ss_iret () hx hb hr hlocks hP9 hD9 hS (rfl) (Nat.le_of_ble_eq_true rfl) (Nat.le_of_ble_eq_true rfl) dX8_through_39

theorem im_X8_keeps_X3 : ∀ w ∈ wsX30, w ∈ wsX8_keeps := fun _ h => List.mem_cons_of_mem _ (List.mem_append_left _ (List.mem_append_left _ (List.mem_append_right _ h)))
theorem im_X8_keeps_X8 : ∀ w ∈ wsX80, w ∈ wsX8_keeps := fun _ h => List.mem_cons_of_mem _ (List.mem_append_left _ (List.mem_append_left _ (List.mem_append_left _ (List.mem_append_right _ h))))
set_option maxHeartbeats 400000 in
set_option maxRecDepth 100000 in
theorem c_keeps (l : Launch) (D : va_G) (cI cZ cB cO cJ : ClassId) (a0 : Nat) (sz : Nat) (rb rd tp rv sp td br sh ke tt : Nat) (b d : Int32)  : Met l yX8_keeps wsX8_keeps ({ frames := 1, cells := 0, slots := 0, locals := 22 }) (Pcs D cI cZ cB cO cJ a0 [.ref rb, .int b, .int d] [(rb, .inr (9, [.ref rd, .ref tp, .ref rv, .ref sp, .int 0])), (rv, .inr (4, [.ref td, .ref br, .ref sh, .ref ke, .ref tt, .int 5, .int 0])), (ke, .inr (0, [.int 0, .ref a0, .int 0]))] sz) (va_Qi (fun (r : Int32) (u : Unit) => r = -1) (fun (u : Unit) t => va_P D vwCl [] t.heap ∧ va_D (va_A [(rb, .inr (9, [.ref rd, .ref tp, .ref rv, .ref sp, .int 0])), (rv, .inr (4, [.ref td, .ref br, .ref sh, .ref ke, .ref tt, .int 5, .int 0])), (ke, .inr (0, [.int 0, .ref a0, .int 0]))] sz) []) (va_A [(rb, .inr (9, [.ref rd, .ref tp, .ref rv, .ref sp, .int 0])), (rv, .inr (4, [.ref td, .ref br, .ref sh, .ref ke, .ref tt, .int 5, .int 0])), (ke, .inr (0, [.int 0, .ref a0, .int 0]))] sz)) 0 0 (va_A [(rb, .inr (9, [.ref rd, .ref tp, .ref rv, .ref sp, .int 0])), (rv, .inr (4, [.ref td, .ref br, .ref sh, .ref ke, .ref tt, .int 5, .int 0])), (ke, .inr (0, [.int 0, .ref a0, .int 0]))] sz) := by
  refine Met.ofW (cc := cX8_keeps) (maxL := 4) (ret := (some .int)) (by decide) rfl ?_
  intro p e s m args below meth c s₁ B hml hv
  obtain ⟨rfl, hsz, hP, hE, hD0, hZ⟩ := hv
  have hx := B.exec
  have hb := B.bytes
  have hr := B.returns
  have hts := atoms_spec (ws := wsX8_keeps) B.pre
  have hown : s.vm.findClass RX8 = some m.cls := findClass_of_methodNamed B.named
  have hlocks := B.notSynchronized
  have hin := (name_of_methodNamed B.named B.method).1
  subst hsz
  have hD := hD0.self (sz := s.heap.size)
  generalize hAe : va_A [(rb, .inr (9, [.ref rd, .ref tp, .ref rv, .ref sp, .int 0])), (rv, .inr (4, [.ref td, .ref br, .ref sh, .ref ke, .ref tt, .int 5, .int 0])), (ke, .inr (0, [.int 0, .ref a0, .int 0]))] s.heap.size = A at hD hZ ⊢
  have hA : ∀ q : Nat, s.heap.size ≤ q → A q := fun q h => by rw [← hAe]; exact Or.inr h
  have hS : va_S A s.heap s.heap [] := va_S.rf
  have hP : va_P D vwCl [(rb, .inr (9, [.ref rd, .ref tp, .ref rv, .ref sp, .int 0])), (rv, .inr (4, [.ref td, .ref br, .ref sh, .ref ke, .ref tt, .int 5, .int 0])), (ke, .inr (0, [.int 0, .ref a0, .int 0]))] s.heap := hP
  have hl := lv_entry ([.ref rb, .int b, .int d]) (n := 4) (Nat.le_of_ble_eq_true rfl)
  rw [lg_entry_eq]
  generalize (lg_sl ([.ref rb, .int b, .int d]) ++ List.replicate (4 - (lg_sl ([.ref rb, .int b, .int d])).length) Slot.unset).toArray = ls at hl ⊢
  have hl : lv_has ls 4 [(0, .ref rb), (1, .int b), (2, .int d)] := hl
  refine lv_iload_n hx hb dX8_keeps_0 rfl (lv_at hl 1 rfl) ?_
  refine lv_iconst (v := 0) hx hb dX8_keeps_1 (by decide) ?_
  refine lv_aload_n hx hb dX8_keeps_2 rfl (lv_at hl 0 rfl) ?_
  refine va_get (D := D) (ci := 9) (v := .ref rv) (C := RX8) (T := TX8) (N := 5) hx hb hts im_X8_keeps_X8 hown hE.1 hP 0 rfl rfl 2 (by decide) (hts (.fieldLink RX8 24 "RiverBridges" "river" "LRiverBridges$River;") (by decide +kernel)) (fun _ h9 => h9) rfl dX8_keeps_3 ?_
  refine va_get (D := D) (ci := 4) (v := .ref ke) (C := RX3) (T := TX3) (N := 7) hx hb hts im_X8_keeps_X3 hown hE.1 hP 1 rfl rfl 3 (by decide) (hts (.fieldLink RX8 101 "RiverBridges$River" "keepers" "Ljava/util/ArrayList;") (by decide +kernel)) (fun _ h9 => h9) rfl dX8_keeps_6 ?_
  refine ss_calli (ws := [(rb, .inr (9, [.ref rd, .ref tp, .ref rv, .ref sp, .int 0])), (rv, .inr (4, [.ref td, .ref br, .ref sh, .ref ke, .ref tt, .int 5, .int 0])), (ke, .inr (0, [.int 0, .ref a0, .int 0]))]) (wc := [(ke, .inr (0, [.int 0, .ref a0, .int 0]))]) (wr := [(rb, .inr (9, [.ref rd, .ref tp, .ref rv, .ref sp, .int 0])), (rv, .inr (4, [.ref td, .ref br, .ref sh, .ref ke, .ref tt, .int 5, .int 0]))]) [2] [0, 1] (va_runV (As := []) (rest := [.int 0, .int b]) ⟨hx, hb, hml, hown, hts⟩ (c_AL_size l D cI cZ cB cO cJ a0 s.heap.size ke a0 0 0) (cwV 0 hts gX8_keeps_Jx4a65c_size_8abf5 rfl rfl rfl (by decide +kernel) ⟨Nat.le_of_ble_eq_true rfl, Nat.le_of_ble_eq_true rfl⟩) (preV_std (wc := [(ke, .inr (0, [.int 0, .ref a0, .int 0]))]) [2] hE hZ hA hS hP hD rfl (by decide) (fun h9 => va_recv hE.1 h9 (ci := 0) (q0 := 0) rfl rfl)) rfl rfl hl.1 rfl (lv_room (Nat.le_of_ble_eq_true rfl)) dX8_keeps_9 ⟨Nat.le_of_ble_eq_true rfl, Nat.le_of_ble_eq_true rfl⟩) hP hD hS hA rfl rfl (by decide) (by decide) (fun r1 u H locs hw hP hD hS => ?_)
  try dsimp only at hw
  subst hw
  have hP : va_P D vwCl [(rb, .inr (9, [.ref rd, .ref tp, .ref rv, .ref sp, .int 0])), (rv, .inr (4, [.ref td, .ref br, .ref sh, .ref ke, .ref tt, .int 5, .int 0])), (ke, .inr (0, [.int 0, .ref a0, .int 0]))] H := hP
  have hD : va_D A [(rb, .inr (9, [.ref rd, .ref tp, .ref rv, .ref sp, .int 0])), (rv, .inr (4, [.ref td, .ref br, .ref sh, .ref ke, .ref tt, .int 5, .int 0])), (ke, .inr (0, [.int 0, .ref a0, .int 0]))] := hD
  refine lv_iconst (v := 1) hx hb dX8_keeps_12 (by decide) ?_
  refine lx_isub (v := -1) hx hb (by decide) dX8_keeps_13 ?_
  refine ss_calli (ws := [(rb, .inr (9, [.ref rd, .ref tp, .ref rv, .ref sp, .int 0])), (rv, .inr (4, [.ref td, .ref br, .ref sh, .ref ke, .ref tt, .int 5, .int 0])), (ke, .inr (0, [.int 0, .ref a0, .int 0]))]) (wc := []) (wr := [(rb, .inr (9, [.ref rd, .ref tp, .ref rv, .ref sp, .int 0])), (rv, .inr (4, [.ref td, .ref br, .ref sh, .ref ke, .ref tt, .int 5, .int 0])), (ke, .inr (0, [.int 0, .ref a0, .int 0]))]) [] [0, 1, 2] (va_runS (As := [.int b, .int 0, .int (-1)]) (rest := []) ⟨hx, hb, hml, hown, hts⟩ (c_isWithin l D cI cZ cB cO cJ a0 H.size b 0 (-1)) (cwS 3 hts gX8_keeps_X8_isWithin rfl rfl rfl (by decide +kernel) ⟨Nat.le_of_ble_eq_true rfl, Nat.le_of_ble_eq_true rfl⟩) (preS_std (wc := []) [] hE hZ hA hS hP hD rfl (by decide)) rfl rfl hl.1 rfl (lv_room (Nat.le_of_ble_eq_true rfl)) dX8_keeps_14 ⟨Nat.le_of_ble_eq_true rfl, Nat.le_of_ble_eq_true rfl⟩) hP hD hS hA rfl rfl (by decide) (by decide) (fun r2 u H locs hw hP hD hS => ?_)
  try dsimp only at hw
  subst hw
  have hw9 : wt b 0 (-1) = 0 := wt_m1 b
  rw [hw9]
  have hP : va_P D vwCl [(rb, .inr (9, [.ref rd, .ref tp, .ref rv, .ref sp, .int 0])), (rv, .inr (4, [.ref td, .ref br, .ref sh, .ref ke, .ref tt, .int 5, .int 0])), (ke, .inr (0, [.int 0, .ref a0, .int 0]))] H := hP
  have hD : va_D A [(rb, .inr (9, [.ref rd, .ref tp, .ref rv, .ref sp, .int 0])), (rv, .inr (4, [.ref td, .ref br, .ref sh, .ref ke, .ref tt, .int 5, .int 0])), (ke, .inr (0, [.int 0, .ref a0, .int 0]))] := hD
  refine lv_if_ne (tgt := 22) hx hb dX8_keeps_17 (by decide) (fun c9 => absurd (by decide) c9) (fun _ => ?_)
  refine lv_iconst (v := -1) hx hb dX8_keeps_20 (by decide) ?_
  have hP9 := hP.sub (ws' := []) [] rfl
  have hD9 := hD.sub (ws' := []) [] (by decide) rfl
  exact ss_iret () hx hb hr hlocks hP9 hD9 hS (rfl) (Nat.le_of_ble_eq_true rfl) (Nat.le_of_ble_eq_true rfl) dX8_keeps_21

theorem im_X8_soonest_X3 : ∀ w ∈ wsX30, w ∈ wsX8_soonest := fun _ h => List.mem_cons_of_mem _ (List.mem_append_left _ (List.mem_append_left _ (List.mem_append_left _ (List.mem_append_left _ (List.mem_append_right _ h)))))
theorem im_X8_soonest_X8 : ∀ w ∈ wsX80, w ∈ wsX8_soonest := fun _ h => List.mem_cons_of_mem _ (List.mem_append_left _ (List.mem_append_left _ (List.mem_append_left _ (List.mem_append_left _ (List.mem_append_left _ (List.mem_append_right _ h))))))
set_option maxHeartbeats 400000 in
set_option maxRecDepth 100000 in
theorem c_soonest (l : Launch) (D : va_G) (cI cZ cB cO cJ : ClassId) (a0 : Nat) (sz : Nat) (rb rd tp rv sp td br sh ke tt : Nat) (a b d : Int32)  : Met l yX8_soonest wsX8_soonest ({ frames := 1, cells := 0, slots := 0, locals := 20 }) (Pcs D cI cZ cB cO cJ a0 [.ref rb, .int a, .int b, .int d] [(rb, .inr (9, [.ref rd, .ref tp, .ref rv, .ref sp, .int 0])), (rv, .inr (4, [.ref td, .ref br, .ref sh, .ref ke, .ref tt, .int 5, .int 0])), (br, .inr (0, [.int 0, .ref a0, .int 0]))] sz) (va_Qi (fun (r : Int32) (u : Unit) => r = -1) (fun (u : Unit) t => va_P D vwCl [] t.heap ∧ va_D (va_A [(rb, .inr (9, [.ref rd, .ref tp, .ref rv, .ref sp, .int 0])), (rv, .inr (4, [.ref td, .ref br, .ref sh, .ref ke, .ref tt, .int 5, .int 0])), (br, .inr (0, [.int 0, .ref a0, .int 0]))] sz) []) (va_A [(rb, .inr (9, [.ref rd, .ref tp, .ref rv, .ref sp, .int 0])), (rv, .inr (4, [.ref td, .ref br, .ref sh, .ref ke, .ref tt, .int 5, .int 0])), (br, .inr (0, [.int 0, .ref a0, .int 0]))] sz)) 0 0 (va_A [(rb, .inr (9, [.ref rd, .ref tp, .ref rv, .ref sp, .int 0])), (rv, .inr (4, [.ref td, .ref br, .ref sh, .ref ke, .ref tt, .int 5, .int 0])), (br, .inr (0, [.int 0, .ref a0, .int 0]))] sz) := by
  refine Met.ofW (cc := cX8_soonest) (maxL := 4) (ret := (some .int)) (by decide) rfl ?_
  intro p e s m args below meth c s₁ B hml hv
  obtain ⟨rfl, hsz, hP, hE, hD0, hZ⟩ := hv
  have hx := B.exec
  have hb := B.bytes
  have hr := B.returns
  have hts := atoms_spec (ws := wsX8_soonest) B.pre
  have hown : s.vm.findClass RX8 = some m.cls := findClass_of_methodNamed B.named
  have hlocks := B.notSynchronized
  have hin := (name_of_methodNamed B.named B.method).1
  subst hsz
  have hD := hD0.self (sz := s.heap.size)
  generalize hAe : va_A [(rb, .inr (9, [.ref rd, .ref tp, .ref rv, .ref sp, .int 0])), (rv, .inr (4, [.ref td, .ref br, .ref sh, .ref ke, .ref tt, .int 5, .int 0])), (br, .inr (0, [.int 0, .ref a0, .int 0]))] s.heap.size = A at hD hZ ⊢
  have hA : ∀ q : Nat, s.heap.size ≤ q → A q := fun q h => by rw [← hAe]; exact Or.inr h
  have hS : va_S A s.heap s.heap [] := va_S.rf
  have hP : va_P D vwCl [(rb, .inr (9, [.ref rd, .ref tp, .ref rv, .ref sp, .int 0])), (rv, .inr (4, [.ref td, .ref br, .ref sh, .ref ke, .ref tt, .int 5, .int 0])), (br, .inr (0, [.int 0, .ref a0, .int 0]))] s.heap := hP
  have hl := lv_entry ([.ref rb, .int a, .int b, .int d]) (n := 4) (Nat.le_of_ble_eq_true rfl)
  rw [lg_entry_eq]
  generalize (lg_sl ([.ref rb, .int a, .int b, .int d]) ++ List.replicate (4 - (lg_sl ([.ref rb, .int a, .int b, .int d])).length) Slot.unset).toArray = ls at hl ⊢
  have hl : lv_has ls 4 [(0, .ref rb), (1, .int a), (2, .int b), (3, .int d)] := hl
  refine lv_aload_n hx hb dX8_soonest_0 rfl (lv_at hl 0 rfl) ?_
  refine va_get (D := D) (ci := 9) (v := .ref rv) (C := RX8) (T := TX8) (N := 5) hx hb hts im_X8_soonest_X8 hown hE.1 hP 0 rfl rfl 2 (by decide) (hts (.fieldLink RX8 24 "RiverBridges" "river" "LRiverBridges$River;") (by decide +kernel)) (fun _ h9 => h9) rfl dX8_soonest_1 ?_
  refine va_get (D := D) (ci := 4) (v := .ref br) (C := RX3) (T := TX3) (N := 7) hx hb hts im_X8_soonest_X3 hown hE.1 hP 1 rfl rfl 1 (by decide) (hts (.fieldLink RX8 59 "RiverBridges$River" "bridges" "Ljava/util/ArrayList;") (by decide +kernel)) (fun _ h9 => h9) rfl dX8_soonest_4 ?_
  refine ss_calli (ws := [(rb, .inr (9, [.ref rd, .ref tp, .ref rv, .ref sp, .int 0])), (rv, .inr (4, [.ref td, .ref br, .ref sh, .ref ke, .ref tt, .int 5, .int 0])), (br, .inr (0, [.int 0, .ref a0, .int 0]))]) (wc := [(br, .inr (0, [.int 0, .ref a0, .int 0]))]) (wr := [(rb, .inr (9, [.ref rd, .ref tp, .ref rv, .ref sp, .int 0])), (rv, .inr (4, [.ref td, .ref br, .ref sh, .ref ke, .ref tt, .int 5, .int 0]))]) [2] [0, 1] (va_runV (As := []) (rest := []) ⟨hx, hb, hml, hown, hts⟩ (c_AL_isEmpty l D cI cZ cB cO cJ a0 s.heap.size br a0 0) (cwV 0 hts gX8_soonest_Jx4a65c_isEmpty_aae02 rfl rfl rfl (by decide +kernel) ⟨Nat.le_of_ble_eq_true rfl, Nat.le_of_ble_eq_true rfl⟩) (preV_std (wc := [(br, .inr (0, [.int 0, .ref a0, .int 0]))]) [2] hE hZ hA hS hP hD rfl (by decide) (fun h9 => va_recv hE.1 h9 (ci := 0) (q0 := 0) rfl rfl)) rfl rfl hl.1 rfl (lv_room (Nat.le_of_ble_eq_true rfl)) dX8_soonest_7 ⟨Nat.le_of_ble_eq_true rfl, Nat.le_of_ble_eq_true rfl⟩) hP hD hS hA rfl rfl (by decide) (by decide) (fun r1 u H locs hw hP hD hS => ?_)
  try dsimp only at hw
  subst hw
  have hP : va_P D vwCl [(rb, .inr (9, [.ref rd, .ref tp, .ref rv, .ref sp, .int 0])), (rv, .inr (4, [.ref td, .ref br, .ref sh, .ref ke, .ref tt, .int 5, .int 0])), (br, .inr (0, [.int 0, .ref a0, .int 0]))] H := hP
  have hD : va_D A [(rb, .inr (9, [.ref rd, .ref tp, .ref rv, .ref sp, .int 0])), (rv, .inr (4, [.ref td, .ref br, .ref sh, .ref ke, .ref tt, .int 5, .int 0])), (br, .inr (0, [.int 0, .ref a0, .int 0]))] := hD
  refine lv_if_ne (tgt := 35) hx hb dX8_soonest_10 (by decide) (fun _ => ?_) (fun c9 => absurd c9 (by decide))
  refine lv_iconst (v := -1) hx hb dX8_soonest_35 (by decide) ?_
  have hP9 := hP.sub (ws' := []) [] rfl
  have hD9 := hD.sub (ws' := []) [] (by decide) rfl
  exact ss_iret () hx hb hr hlocks hP9 hD9 hS (rfl) (Nat.le_of_ble_eq_true rfl) (Nat.le_of_ble_eq_true rfl) dX8_soonest_36

