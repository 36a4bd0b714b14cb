theorem im_X5_init_X5 : ∀ w ∈ wsX50, w ∈ wsX5_init := fun _ h => List.mem_cons_of_mem _ (List.mem_append_right _ h)
set_option maxHeartbeats 400000 in
set_option maxRecDepth 100000 in
theorem c_Tape_init (l : Launch) (D : va_G) (cI cZ cB cO cJ : ClassId) (a0 : Nat) (sz : Nat) (h0 : Nat)  : Met l yX5_init wsX5_init ({ frames := 1, cells := 1, slots := 440, locals := 12 }) (Pcs D cI cZ cB cO cJ a0 [.ref h0] [(h0, .inr (6, [.null, .int 0]))] sz) (va_Qv (fun (u : Nat) => True) (fun (u : Nat) t => va_P D vwCl [(h0, .inr (6, [.ref u, .int 0])), (u, .inl (cI, 440, .inl (fun _ => 0)))] t.heap ∧ va_D (va_A [(h0, .inr (6, [.null, .int 0]))] sz) [(h0, .inr (6, [.ref u, .int 0])), (u, .inl (cI, 440, .inl (fun _ => 0)))]) (va_A [(h0, .inr (6, [.null, .int 0]))] sz)) 1 440 (va_A [(h0, .inr (6, [.null, .int 0]))] sz) := by
  refine Met.ofW (cc := cX5_init) (maxL := 1) (ret := none) (by decide) rfl ?_
  intro p e s m args below meth c s₁ B hml hv
  obtain ⟨rfl, hsz, hP, hE, hD0, hZ⟩ := hv
  have hx := B.exec
  have hb := B.bytes
  have hr := B.returns
  have hts := atoms_spec (ws := wsX5_init) B.pre
  have hown : s.vm.findClass RX5 = some m.cls := findClass_of_methodNamed B.named
  have hlocks := B.notSynchronized
  have hin := (name_of_methodNamed B.named B.method).1
  subst hsz
  have hD := hD0.self (sz := s.heap.size)
  generalize hAe : va_A [(h0, .inr (6, [.null, .int 0]))] s.heap.size = A at hD hZ ⊢
  have hA : ∀ q : Nat, s.heap.size ≤ q → A q := fun q h => by rw [← hAe]; exact Or.inr h
  have hS : va_S A s.heap s.heap [] := va_S.rf
  have hP : va_P D vwCl [(h0, .inr (6, [.null, .int 0]))] s.heap := hP
  have hl := lv_entry ([.ref h0]) (n := 1) (Nat.le_of_ble_eq_true rfl)
  rw [lg_entry_eq]
  generalize (lg_sl ([.ref h0]) ++ List.replicate (1 - (lg_sl ([.ref h0])).length) Slot.unset).toArray = ls at hl ⊢
  have hl : lv_has ls 1 [(0, .ref h0)] := hl
  refine lv_aload_n hx hb dX5_init_0 rfl (lv_at hl 0 rfl) ?_
  refine W.objInit hx hb hown (hts (.methodLink RX5 1 objectInit) (by decide +kernel)) (hts (.instanceMethod objectInit) (by decide +kernel)) (hts (.code objectInit ⟨#[0xb1]⟩ 1 none) (by decide +kernel)) rfl (by rw [hml]; exact hl.1) rfl dX5_init_1 (Nat.le_of_ble_eq_true rfl) (Nat.le_of_ble_eq_true rfl) ?_
  refine W.eq (g2 := F0 m 4 ls []) rfl ?_
  refine lv_aload_n hx hb dX5_init_4 rfl (lv_at hl 0 rfl) ?_
  refine lv_sipush (v := 440) hx hb dX5_init_5 (by decide) ?_
  refine nw_arr (atype := .int) (ty := .int) (N' := 440) (a0 := (440, .inl (fun _ => 0))) hx hb (hts (.arrayClass .int) (by decide +kernel)) rfl hE.1 hP hD hS hA 0 rfl (fun C h => by cases h) (fun _ => rfl) (by decide) (by decide) (Nat.le_of_ble_eq_true rfl) (Nat.le_of_ble_eq_true rfl) (Nat.le_of_ble_eq_true rfl) dX5_init_8 (fun q1 H hP hD hS => ?_)
  have hP : va_P D vwCl [(h0, .inr (6, [.null, .int 0])), (q1, .inl (cI, 440, .inl (fun _ => 0)))] H := hP
  have hD : va_D A [(h0, .inr (6, [.null, .int 0])), (q1, .inl (cI, 440, .inl (fun _ => 0)))] := hD
  refine va_putF (D := D) (ci := 6) (v := .ref q1) (ty := .array .int) (C := RX5) (T := TX5) (N := 2) hx hb hts im_X5_init_X5 tyX5 tyX5_ok nmX5 hown hE.1 hP hD hS 0 rfl rfl 0 (by decide) (hts (.fieldLink RX5 9 "RiverBridges$Tape" "bytes" "[I") (by decide +kernel)) (fun _ h9 => h9) rfl hin rfl (by decide +kernel) rfl rfl (Nat.le_of_ble_eq_true rfl) dX5_init_10 (fun H locs hP hD hS => ?_)
  have hP : va_P D vwCl [(h0, .inr (6, [.ref q1, .int 0])), (q1, .inl (cI, 440, .inl (fun _ => 0)))] H := hP
  have hD : va_D A [(h0, .inr (6, [.ref q1, .int 0])), (q1, .inl (cI, 440, .inl (fun _ => 0)))] := hD
  refine lv_aload_n hx hb dX5_init_13 rfl (lv_at hl 0 rfl) ?_
  refine lv_iconst (v := 0) hx hb dX5_init_14 (by decide) ?_
  refine va_put (D := D) (ci := 6) (v := .int 0) (ty := .int) (C := RX5) (T := TX5) (N := 2) hx hb hts im_X5_init_X5 tyX5 tyX5_ok nmX5 hown hE.1 hP hD hS 0 rfl rfl 1 (by decide) (hts (.fieldLink RX5 13 "RiverBridges$Tape" "size" "I") (by decide +kernel)) (fun _ h9 => h9) rfl (by decide +kernel) rfl rfl (Nat.le_of_ble_eq_true rfl) dX5_init_15 (fun H locs hP hD hS => ?_)
  have hP : va_P D vwCl [(h0, .inr (6, [.ref q1, .int 0])), (q1, .inl (cI, 440, .inl (fun _ => 0)))] H := hP
  have hD : va_D A [(h0, .inr (6, [.ref q1, .int 0])), (q1, .inl (cI, 440, .inl (fun _ => 0)))] := hD
  have hP9 := hP.sub (ws' := [(h0, .inr (6, [.ref q1, .int 0])), (q1, .inl (cI, 440, .inl (fun _ => 0)))]) [0, 1] rfl
  have hD9 := hD.sub (ws' := [(h0, .inr (6, [.ref q1, .int 0])), (q1, .inl (cI, 440, .inl (fun _ => 0)))]) [0, 1] (by decide) rfl
  exact ss_vret q1 hx hb hr hlocks hP9 hD9 hS (trivial) (Nat.le_of_ble_eq_true rfl) (Nat.le_of_ble_eq_true rfl) dX5_init_18

theorem im_X5_hasRoomForFive_X5 : ∀ w ∈ wsX50, w ∈ wsX5_hasRoomForFive := fun _ h => List.mem_cons_of_mem _ (List.mem_append_right _ h)
set_option maxHeartbeats 400000 in
set_option maxRecDepth 100000 in
theorem c_Tape_room (l : Launch) (D : va_G) (cI cZ cB cO cJ : ClassId) (a0 : Nat) (sz : Nat) (h0 h1 : Nat)  : Met l yX5_hasRoomForFive wsX5_hasRoomForFive ({ frames := 0, cells := 0, slots := 0, locals := 0 }) (Pcs D cI cZ cB cO cJ a0 [.ref h0] [(h0, .inr (6, [.ref h1, .int 0]))] sz) (va_Qi (fun (r : Int32) (u : Unit) => r = 1) (fun (u : Unit) t => va_P D vwCl [(h0, .inr (6, [.ref h1, .int 0]))] t.heap ∧ va_D (va_A [(h0, .inr (6, [.ref h1, .int 0]))] sz) [(h0, .inr (6, [.ref h1, .int 0]))]) (va_A [(h0, .inr (6, [.ref h1, .int 0]))] sz)) 0 0 (va_A [(h0, .inr (6, [.ref h1, .int 0]))] sz) := by
  refine Met.ofW (cc := cX5_hasRoomForFive) (maxL := 1) (ret := (some .boolean)) (by decide) rfl ?_
  intro p e s m args below meth c s₁ B hml hv
  obtain ⟨rfl, hsz, hP, hE, hD0, hZ⟩ := hv
  have hx := B.exec
  have hb := B.bytes
  have hr := B.returns
  have hts := atoms_spec (ws := wsX5_hasRoomForFive) B.pre
  have hown : s.vm.findClass RX5 = some m.cls := findClass_of_methodNamed B.named
  have hlocks := B.notSynchronized
  have hin := (name_of_methodNamed B.named B.method).1
  subst hsz
  have hD := hD0.self (sz := s.heap.size)
  generalize hAe : va_A [(h0, .inr (6, [.ref h1, .int 0]))] s.heap.size = A at hD hZ ⊢
  have hA : ∀ q : Nat, s.heap.size ≤ q → A q := fun q h => by rw [← hAe]; exact Or.inr h
  have hS : va_S A s.heap s.heap [] := va_S.rf
  have hP : va_P D vwCl [(h0, .inr (6, [.ref h1, .int 0]))] s.heap := hP
  have hl := lv_entry ([.ref h0]) (n := 1) (Nat.le_of_ble_eq_true rfl)
  rw [lg_entry_eq]
  generalize (lg_sl ([.ref h0]) ++ List.replicate (1 - (lg_sl ([.ref h0])).length) Slot.unset).toArray = ls at hl ⊢
  have hl : lv_has ls 1 [(0, .ref h0)] := hl
  refine lv_aload_n hx hb dX5_hasRoomForFive_0 rfl (lv_at hl 0 rfl) ?_
  refine va_get (D := D) (ci := 6) (v := .int 0) (C := RX5) (T := TX5) (N := 2) hx hb hts im_X5_hasRoomForFive_X5 hown hE.1 hP 0 rfl rfl 1 (by decide) (hts (.fieldLink RX5 13 "RiverBridges$Tape" "size" "I") (by decide +kernel)) (fun _ h9 => h9) rfl dX5_hasRoomForFive_1 ?_
  refine lv_bipush (v := 20) hx hb dX5_hasRoomForFive_4 (by decide) ?_
  refine lx_iadd (v := 20) hx hb (by decide) dX5_hasRoomForFive_6 ?_
  refine lv_sipush (v := 440) hx hb dX5_hasRoomForFive_7 (by decide) ?_
  refine lv_icmp_gt (tgt := 17) hx hb dX5_hasRoomForFive_10 (by decide) (fun c9 => absurd c9 (by decide)) (fun _ => ?_)
  refine lv_iconst (v := 1) hx hb dX5_hasRoomForFive_13 (by decide) ?_
  refine lv_goto (tgt := 18) hx hb dX5_hasRoomForFive_14 (by decide) ?_
  have hP9 := hP.sub (ws' := [(h0, .inr (6, [.ref h1, .int 0]))]) [0] rfl
  have hD9 := hD.sub (ws' := [(h0, .inr (6, [.ref h1, .int 0]))]) [0] (by decide) rfl
  exact ss_zret () hx hb hr hlocks (by decide) hP9 hD9 hS (rfl) (Nat.le_of_ble_eq_true rfl) (Nat.le_of_ble_eq_true rfl) dX5_hasRoomForFive_18

theorem im_X5_append_X5 : ∀ w ∈ wsX50, w ∈ wsX5_append := fun _ h => List.mem_cons_of_mem _ (List.mem_append_right _ h)
set_option maxHeartbeats 400000 in
set_option maxRecDepth 100000 in
theorem c_Tape_append (l : Launch) (D : va_G) (cI cZ cB cO cJ : ClassId) (a0 : Nat) (sz : Nat) (h0 h1 n : Nat) (f : Nat → Int32) (x : Int32) (hn : n ≤ 436) : Met l yX5_append wsX5_append ({ frames := 0, cells := 0, slots := 0, locals := 0 }) (Pcs D cI cZ cB cO cJ a0 [.ref h0, .int x] [(h0, .inr (6, [.ref h1, .int (nI n)])), (h1, .inl (cI, 440, .inl f))] sz) (va_Qv (fun (u : Nat → Int32) => True) (fun (u : Nat → Int32) t => va_P D vwCl [(h0, .inr (6, [.ref h1, .int (nI (n + 4))])), (h1, .inl (cI, 440, .inl u))] t.heap ∧ va_D (va_A [(h0, .inr (6, [.ref h1, .int (nI n)])), (h1, .inl (cI, 440, .inl f))] sz) [(h0, .inr (6, [.ref h1, .int (nI (n + 4))])), (h1, .inl (cI, 440, .inl u))]) (va_A [(h0, .inr (6, [.ref h1, .int (nI n)])), (h1, .inl (cI, 440, .inl f))] sz)) 0 0 (va_A [(h0, .inr (6, [.ref h1, .int (nI n)])), (h1, .inl (cI, 440, .inl f))] sz) := by
  refine Met.ofW (cc := cX5_append) (maxL := 3) (ret := none) (by decide) rfl ?_
  intro p e s m args below meth c s₁ B hml hv
  obtain ⟨rfl, hsz, hP, hE, hD0, hZ⟩ := hv
  have hx := B.exec
  have hb := B.bytes
  have hr := B.returns
  have hts := atoms_spec (ws := wsX5_append) B.pre
  have hown : s.vm.findClass RX5 = some m.cls := findClass_of_methodNamed B.named
  have hlocks := B.notSynchronized
  have hin := (name_of_methodNamed B.named B.method).1
  subst hsz
  have hD := hD0.self (sz := s.heap.size)
  generalize hAe : va_A [(h0, .inr (6, [.ref h1, .int (nI n)])), (h1, .inl (cI, 440, .inl f))] s.heap.size = A at hD hZ ⊢
  have hA : ∀ q : Nat, s.heap.size ≤ q → A q := fun q h => by rw [← hAe]; exact Or.inr h
  have hS : va_S A s.heap s.heap [] := va_S.rf
  have hP : va_P D vwCl [(h0, .inr (6, [.ref h1, .int (nI n)])), (h1, .inl (cI, 440, .inl f))] s.heap := hP
  have hl := lv_entry ([.ref h0, .int x]) (n := 3) (Nat.le_of_ble_eq_true rfl)
  rw [lg_entry_eq]
  generalize (lg_sl ([.ref h0, .int x]) ++ List.replicate (3 - (lg_sl ([.ref h0, .int x])).length) Slot.unset).toArray = ls at hl ⊢
  have hl : lv_has ls 3 [(0, .ref h0), (1, .int x)] := hl
  refine lv_bipush (v := 24) hx hb dX5_append_0 (by decide) ?_
  refine lv_istore_n (lv' := [(2, .int 24), (0, .ref h0), (1, .int x)]) hx hb dX5_append_2 rfl hl (by decide) rfl (fun ls hl => ?_)
  refine lv_iload_n hx hb dX5_append_3 rfl (lv_at hl 0 rfl) ?_
  refine lv_if_lt (tgt := 49) hx hb dX5_append_4 (by decide) (fun c9 => absurd c9 (by decide)) (fun _ => ?_)
  refine lv_aload_n hx hb dX5_append_7 rfl (lv_at hl 1 rfl) ?_
  refine va_get (D := D) (ci := 6) (v := .int (nI n)) (C := RX5) (T := TX5) (N := 2) hx hb hts im_X5_append_X5 hown hE.1 hP 0 rfl rfl 1 (by decide) (hts (.fieldLink RX5 13 "RiverBridges$Tape" "size" "I") (by decide +kernel)) (fun _ h9 => h9) rfl dX5_append_8 ?_
  refine lv_sipush (v := 440) hx hb dX5_append_11 (by decide) ?_
  refine lv_icmp_ge (tgt := 49) hx hb dX5_append_14 (by decide) (fun c9 => absurd c9 (nI_ge (a := n) (b := 440) (by omega) (by omega))) (fun _ => ?_)
  refine lv_aload_n hx hb dX5_append_17 rfl (lv_at hl 1 rfl) ?_
  refine va_get (D := D) (ci := 6) (v := .ref h1) (C := RX5) (T := TX5) (N := 2) hx hb hts im_X5_append_X5 hown hE.1 hP 0 rfl rfl 0 (by decide) (hts (.fieldLink RX5 9 "RiverBridges$Tape" "bytes" "[I") (by decide +kernel)) (fun _ h9 => h9) rfl dX5_append_18 ?_
  refine lv_aload_n hx hb dX5_append_21 rfl (lv_at hl 1 rfl) ?_
  refine va_get (D := D) (ci := 6) (v := .int (nI n)) (C := RX5) (T := TX5) (N := 2) hx hb hts im_X5_append_X5 hown hE.1 hP 0 rfl rfl 1 (by decide) (hts (.fieldLink RX5 13 "RiverBridges$Tape" "size" "I") (by decide +kernel)) (fun _ h9 => h9) rfl dX5_append_22 ?_
  refine lv_iload_n hx hb dX5_append_25 rfl (lv_at hl 2 rfl) ?_
  refine lv_iload_n hx hb dX5_append_26 rfl (lv_at hl 0 rfl) ?_
  refine lv_iushr hx hb dX5_append_27 rfl ?_
  refine lv_topi (fun z1 ez1 => ?_)
  refine lv_sipush (v := 255) hx hb dX5_append_28 (by decide) ?_
  refine lx_iand (v := z1 &&& 255) hx hb (rfl) dX5_append_31 ?_
  refine lx_iast (g := upd f (nI n).toNatClampNeg (z1 &&& 255)) hx hb hE.1 hP hD hS 1 0 rfl rfl (vp_in_nI (by omega) (by omega)) (rfl) dX5_append_32 (fun H locs hP hD hS => ?_)
  have hP : va_P D vwCl [(h0, .inr (6, [.ref h1, .int (nI n)])), (h1, .inl (cI, 440, .inl (upd f (nI n).toNatClampNeg (z1 &&& 255))))] H := hP
  have hD : va_D A [(h0, .inr (6, [.ref h1, .int (nI n)])), (h1, .inl (cI, 440, .inl (upd f (nI n).toNatClampNeg (z1 &&& 255))))] := hD
  generalize (upd f (nI n).toNatClampNeg (z1 &&& 255)) = f2 at hP hD
  refine lv_aload_n hx hb dX5_append_33 rfl (lv_at hl 1 rfl) ?_
  refine lv_dup hx hb dX5_append_34 rfl ?_
  refine va_get (D := D) (ci := 6) (v := .int (nI n)) (C := RX5) (T := TX5) (N := 2) hx hb hts im_X5_append_X5 hown hE.1 hP 0 rfl rfl 1 (by decide) (hts (.fieldLink RX5 13 "RiverBridges$Tape" "size" "I") (by decide +kernel)) (fun _ h9 => h9) rfl dX5_append_35 ?_
  refine lv_iconst (v := 1) hx hb dX5_append_38 (by decide) ?_
  refine lx_iadd (v := nI (n + 1)) hx hb (nI_1 (n)) dX5_append_39 ?_
  refine va_put (D := D) (ci := 6) (v := .int (nI (n + 1))) (ty := .int) (C := RX5) (T := TX5) (N := 2) hx hb hts im_X5_append_X5 tyX5 tyX5_ok nmX5 hown hE.1 hP hD hS 0 rfl rfl 1 (by decide) (hts (.fieldLink RX5 13 "RiverBridges$Tape" "size" "I") (by decide +kernel)) (fun _ h9 => h9) rfl (by decide +kernel) rfl rfl (Nat.le_of_ble_eq_true rfl) dX5_append_40 (fun H locs hP hD hS => ?_)
  have hP : va_P D vwCl [(h0, .inr (6, [.ref h1, .int (nI (n + 1))])), (h1, .inl (cI, 440, .inl f2))] H := hP
  have hD : va_D A [(h0, .inr (6, [.ref h1, .int (nI (n + 1))])), (h1, .inl (cI, 440, .inl f2))] := hD
  refine lv_iinc (v := 16) (lv' := [(2, .int 16), (0, .ref h0), (1, .int x)]) hx hb dX5_append_43 hl (k := 0) rfl (by decide) (by decide) rfl (fun ls hl => ?_)
  refine lv_goto (tgt := 3) hx hb dX5_append_46 (by decide) ?_
  refine lv_iload_n hx hb dX5_append_3 rfl (lv_at hl 0 rfl) ?_
  refine lv_if_lt (tgt := 49) hx hb dX5_append_4 (by decide) (fun c9 => absurd c9 (by decide)) (fun _ => ?_)
  refine lv_aload_n hx hb dX5_append_7 rfl (lv_at hl 1 rfl) ?_
  refine va_get (D := D) (ci := 6) (v := .int (nI (n + 1))) (C := RX5) (T := TX5) (N := 2) hx hb hts im_X5_append_X5 hown hE.1 hP 0 rfl rfl 1 (by decide) (hts (.fieldLink RX5 13 "RiverBridges$Tape" "size" "I") (by decide +kernel)) (fun _ h9 => h9) rfl dX5_append_8 ?_
  refine lv_sipush (v := 440) hx hb dX5_append_11 (by decide) ?_
  refine lv_icmp_ge (tgt := 49) hx hb dX5_append_14 (by decide) (fun c9 => absurd c9 (nI_ge (a := n + 1) (b := 440) (by omega) (by omega))) (fun _ => ?_)
  refine lv_aload_n hx hb dX5_append_17 rfl (lv_at hl 1 rfl) ?_
  refine va_get (D := D) (ci := 6) (v := .ref h1) (C := RX5) (T := TX5) (N := 2) hx hb hts im_X5_append_X5 hown hE.1 hP 0 rfl rfl 0 (by decide) (hts (.fieldLink RX5 9 "RiverBridges$Tape" "bytes" "[I") (by decide +kernel)) (fun _ h9 => h9) rfl dX5_append_18 ?_
  refine lv_aload_n hx hb dX5_append_21 rfl (lv_at hl 1 rfl) ?_
  refine va_get (D := D) (ci := 6) (v := .int (nI (n + 1))) (C := RX5) (T := TX5) (N := 2) hx hb hts im_X5_append_X5 hown hE.1 hP 0 rfl rfl 1 (by decide) (hts (.fieldLink RX5 13 "RiverBridges$Tape" "size" "I") (by decide +kernel)) (fun _ h9 => h9) rfl dX5_append_22 ?_
  refine lv_iload_n hx hb dX5_append_25 rfl (lv_at hl 2 rfl) ?_
  refine lv_iload_n hx hb dX5_append_26 rfl (lv_at hl 0 rfl) ?_
  refine lv_iushr hx hb dX5_append_27 rfl ?_
  refine lv_topi (fun z3 ez3 => ?_)
  refine lv_sipush (v := 255) hx hb dX5_append_28 (by decide) ?_
  refine lx_iand (v := z3 &&& 255) hx hb (rfl) dX5_append_31 ?_
  refine lx_iast (g := upd f2 (nI (n + 1)).toNatClampNeg (z3 &&& 255)) hx hb hE.1 hP hD hS 1 0 rfl rfl (vp_in_nI (by omega) (by omega)) (rfl) dX5_append_32 (fun H locs hP hD hS => ?_)
  have hP : va_P D vwCl [(h0, .inr (6, [.ref h1, .int (nI (n + 1))])), (h1, .inl (cI, 440, .inl (upd f2 (nI (n + 1)).toNatClampNeg (z3 &&& 255))))] H := hP
  have hD : va_D A [(h0, .inr (6, [.ref h1, .int (nI (n + 1))])), (h1, .inl (cI, 440, .inl (upd f2 (nI (n + 1)).toNatClampNeg (z3 &&& 255))))] := hD
  generalize (upd f2 (nI (n + 1)).toNatClampNeg (z3 &&& 255)) = f4 at hP hD
  refine lv_aload_n hx hb dX5_append_33 rfl (lv_at hl 1 rfl) ?_
  refine lv_dup hx hb dX5_append_34 rfl ?_
  refine va_get (D := D) (ci := 6) (v := .int (nI (n + 1))) (C := RX5) (T := TX5) (N := 2) hx hb hts im_X5_append_X5 hown hE.1 hP 0 rfl rfl 1 (by decide) (hts (.fieldLink RX5 13 "RiverBridges$Tape" "size" "I") (by decide +kernel)) (fun _ h9 => h9) rfl dX5_append_35 ?_
  refine lv_iconst (v := 1) hx hb dX5_append_38 (by decide) ?_
  refine lx_iadd (v := nI (n + 2)) hx hb (nI_1 (n + 1)) dX5_append_39 ?_
  refine va_put (D := D) (ci := 6) (v := .int (nI (n + 2))) (ty := .int) (C := RX5) (T := TX5) (N := 2) hx hb hts im_X5_append_X5 tyX5 tyX5_ok nmX5 hown hE.1 hP hD hS 0 rfl rfl 1 (by decide) (hts (.fieldLink RX5 13 "RiverBridges$Tape" "size" "I") (by decide +kernel)) (fun _ h9 => h9) rfl (by decide +kernel) rfl rfl (Nat.le_of_ble_eq_true rfl) dX5_append_40 (fun H locs hP hD hS => ?_)
  have hP : va_P D vwCl [(h0, .inr (6, [.ref h1, .int (nI (n + 2))])), (h1, .inl (cI, 440, .inl f4))] H := hP
  have hD : va_D A [(h0, .inr (6, [.ref h1, .int (nI (n + 2))])), (h1, .inl (cI, 440, .inl f4))] := hD
  refine lv_iinc (v := 8) (lv' := [(2, .int 8), (0, .ref h0), (1, .int x)]) hx hb dX5_append_43 hl (k := 0) rfl (by decide) (by decide) rfl (fun ls hl => ?_)
  refine lv_goto (tgt := 3) hx hb dX5_append_46 (by decide) ?_
  refine lv_iload_n hx hb dX5_append_3 rfl (lv_at hl 0 rfl) ?_
  refine lv_if_lt (tgt := 49) hx hb dX5_append_4 (by decide) (fun c9 => absurd c9 (by decide)) (fun _ => ?_)
  refine lv_aload_n hx hb dX5_append_7 rfl (lv_at hl 1 rfl) ?_
  refine va_get (D := D) (ci := 6) (v := .int (nI (n + 2))) (C := RX5) (T := TX5) (N := 2) hx hb hts im_X5_append_X5 hown hE.1 hP 0 rfl rfl 1 (by decide) (hts (.fieldLink RX5 13 "RiverBridges$Tape" "size" "I") (by decide +kernel)) (fun _ h9 => h9) rfl dX5_append_8 ?_
  refine lv_sipush (v := 440) hx hb dX5_append_11 (by decide) ?_
  refine lv_icmp_ge (tgt := 49) hx hb dX5_append_14 (by decide) (fun c9 => absurd c9 (nI_ge (a := n + 2) (b := 440) (by omega) (by omega))) (fun _ => ?_)
  refine lv_aload_n hx hb dX5_append_17 rfl (lv_at hl 1 rfl) ?_
  refine va_get (D := D) (ci := 6) (v := .ref h1) (C := RX5) (T := TX5) (N := 2) hx hb hts im_X5_append_X5 hown hE.1 hP 0 rfl rfl 0 (by decide) (hts (.fieldLink RX5 9 "RiverBridges$Tape" "bytes" "[I") (by decide +kernel)) (fun _ h9 => h9) rfl dX5_append_18 ?_
  refine lv_aload_n hx hb dX5_append_21 rfl (lv_at hl 1 rfl) ?_
  refine va_get (D := D) (ci := 6) (v := .int (nI (n + 2))) (C := RX5) (T := TX5) (N := 2) hx hb hts im_X5_append_X5 hown hE.1 hP 0 rfl rfl 1 (by decide) (hts (.fieldLink RX5 13 "RiverBridges$Tape" "size" "I") (by decide +kernel)) (fun _ h9 => h9) rfl dX5_append_22 ?_
  refine lv_iload_n hx hb dX5_append_25 rfl (lv_at hl 2 rfl) ?_
  refine lv_iload_n hx hb dX5_append_26 rfl (lv_at hl 0 rfl) ?_
  refine lv_iushr hx hb dX5_append_27 rfl ?_
  refine lv_topi (fun z5 ez5 => ?_)
  refine lv_sipush (v := 255) hx hb dX5_append_28 (by decide) ?_
  refine lx_iand (v := z5 &&& 255) hx hb (rfl) dX5_append_31 ?_
  refine lx_iast (g := upd f4 (nI (n + 2)).toNatClampNeg (z5 &&& 255)) hx hb hE.1 hP hD hS 1 0 rfl rfl (vp_in_nI (by omega) (by omega)) (rfl) dX5_append_32 (fun H locs hP hD hS => ?_)
  have hP : va_P D vwCl [(h0, .inr (6, [.ref h1, .int (nI (n + 2))])), (h1, .inl (cI, 440, .inl (upd f4 (nI (n + 2)).toNatClampNeg (z5 &&& 255))))] H := hP
  have hD : va_D A [(h0, .inr (6, [.ref h1, .int (nI (n + 2))])), (h1, .inl (cI, 440, .inl (upd f4 (nI (n + 2)).toNatClampNeg (z5 &&& 255))))] := hD
  generalize (upd f4 (nI (n + 2)).toNatClampNeg (z5 &&& 255)) = f6 at hP hD
  refine lv_aload_n hx hb dX5_append_33 rfl (lv_at hl 1 rfl) ?_
  refine lv_dup hx hb dX5_append_34 rfl ?_
  refine va_get (D := D) (ci := 6) (v := .int (nI (n + 2))) (C := RX5) (T := TX5) (N := 2) hx hb hts im_X5_append_X5 hown hE.1 hP 0 rfl rfl 1 (by decide) (hts (.fieldLink RX5 13 "RiverBridges$Tape" "size" "I") (by decide +kernel)) (fun _ h9 => h9) rfl dX5_append_35 ?_
  refine lv_iconst (v := 1) hx hb dX5_append_38 (by decide) ?_
  refine lx_iadd (v := nI (n + 3)) hx hb (nI_1 (n + 2)) dX5_append_39 ?_
  refine va_put (D := D) (ci := 6) (v := .int (nI (n + 3))) (ty := .int) (C := RX5) (T := TX5) (N := 2) hx hb hts im_X5_append_X5 tyX5 tyX5_ok nmX5 hown hE.1 hP hD hS 0 rfl rfl 1 (by decide) (hts (.fieldLink RX5 13 "RiverBridges$Tape" "size" "I") (by decide +kernel)) (fun _ h9 => h9) rfl (by decide +kernel) rfl rfl (Nat.le_of_ble_eq_true rfl) dX5_append_40 (fun H locs hP hD hS => ?_)
  have hP : va_P D vwCl [(h0, .inr (6, [.ref h1, .int (nI (n + 3))])), (h1, .inl (cI, 440, .inl f6))] H := hP
  have hD : va_D A [(h0, .inr (6, [.ref h1, .int (nI (n + 3))])), (h1, .inl (cI, 440, .inl f6))] := hD
  refine lv_iinc (v := 0) (lv' := [(2, .int 0), (0, .ref h0), (1, .int x)]) hx hb dX5_append_43 hl (k := 0) rfl (by decide) (by decide) rfl (fun ls hl => ?_)
  refine lv_goto (tgt := 3) hx hb dX5_append_46 (by decide) ?_
  refine lv_iload_n hx hb dX5_append_3 rfl (lv_at hl 0 rfl) ?_
  refine lv_if_lt (tgt := 49) hx hb dX5_append_4 (by decide) (fun c9 => absurd c9 (by decide)) (fun _ => ?_)
  refine lv_aload_n hx hb dX5_append_7 rfl (lv_at hl 1 rfl) ?_
  refine va_get (D := D) (ci := 6) (v := .int (nI (n + 3))) (C := RX5) (T := TX5) (N := 2) hx hb hts im_X5_append_X5 hown hE.1 hP 0 rfl rfl 1 (by decide) (hts (.fieldLink RX5 13 "RiverBridges$Tape" "size" "I") (by decide +kernel)) (fun _ h9 => h9) rfl dX5_append_8 ?_
  refine lv_sipush (v := 440) hx hb dX5_append_11 (by decide) ?_
  refine lv_icmp_ge (tgt := 49) hx hb dX5_append_14 (by decide) (fun c9 => absurd c9 (nI_ge (a := n + 3) (b := 440) (by omega) (by omega))) (fun _ => ?_)
  refine lv_aload_n hx hb dX5_append_17 rfl (lv_at hl 1 rfl) ?_
  refine va_get (D := D) (ci := 6) (v := .ref h1) (C := RX5) (T := TX5) (N := 2) hx hb hts im_X5_append_X5 hown hE.1 hP 0 rfl rfl 0 (by decide) (hts (.fieldLink RX5 9 "RiverBridges$Tape" "bytes" "[I") (by decide +kernel)) (fun _ h9 => h9) rfl dX5_append_18 ?_
  refine lv_aload_n hx hb dX5_append_21 rfl (lv_at hl 1 rfl) ?_
  refine va_get (D := D) (ci := 6) (v := .int (nI (n + 3))) (C := RX5) (T := TX5) (N := 2) hx hb hts im_X5_append_X5 hown hE.1 hP 0 rfl rfl 1 (by decide) (hts (.fieldLink RX5 13 "RiverBridges$Tape" "size" "I") (by decide +kernel)) (fun _ h9 => h9) rfl dX5_append_22 ?_
  refine lv_iload_n hx hb dX5_append_25 rfl (lv_at hl 2 rfl) ?_
  refine lv_iload_n hx hb dX5_append_26 rfl (lv_at hl 0 rfl) ?_
  refine lv_iushr hx hb dX5_append_27 rfl ?_
  refine lv_topi (fun z7 ez7 => ?_)
  refine lv_sipush (v := 255) hx hb dX5_append_28 (by decide) ?_
  refine lx_iand (v := z7 &&& 255) hx hb (rfl) dX5_append_31 ?_
  refine lx_iast (g := upd f6 (nI (n + 3)).toNatClampNeg (z7 &&& 255)) hx hb hE.1 hP hD hS 1 0 rfl rfl (vp_in_nI (by omega) (by omega)) (rfl) dX5_append_32 (fun H locs hP hD hS => ?_)
  have hP : va_P D vwCl [(h0, .inr (6, [.ref h1, .int (nI (n + 3))])), (h1, .inl (cI, 440, .inl (upd f6 (nI (n + 3)).toNatClampNeg (z7 &&& 255))))] H := hP
  have hD : va_D A [(h0, .inr (6, [.ref h1, .int (nI (n + 3))])), (h1, .inl (cI, 440, .inl (upd f6 (nI (n + 3)).toNatClampNeg (z7 &&& 255))))] := hD
  generalize (upd f6 (nI (n + 3)).toNatClampNeg (z7 &&& 255)) = f8 at hP hD
  refine lv_aload_n hx hb dX5_append_33 rfl (lv_at hl 1 rfl) ?_
  refine lv_dup hx hb dX5_append_34 rfl ?_
  refine va_get (D := D) (ci := 6) (v := .int (nI (n + 3))) (C := RX5) (T := TX5) (N := 2) hx hb hts im_X5_append_X5 hown hE.1 hP 0 rfl rfl 1 (by decide) (hts (.fieldLink RX5 13 "RiverBridges$Tape" "size" "I") (by decide +kernel)) (fun _ h9 => h9) rfl dX5_append_35 ?_
  refine lv_iconst (v := 1) hx hb dX5_append_38 (by decide) ?_
  refine lx_iadd (v := nI (n + 4)) hx hb (nI_1 (n + 3)) dX5_append_39 ?_
  refine va_put (D := D) (ci := 6) (v := .int (nI (n + 4))) (ty := .int) (C := RX5) (T := TX5) (N := 2) hx hb hts im_X5_append_X5 tyX5 tyX5_ok nmX5 hown hE.1 hP hD hS 0 rfl rfl 1 (by decide) (hts (.fieldLink RX5 13 "RiverBridges$Tape" "size" "I") (by decide +kernel)) (fun _ h9 => h9) rfl (by decide +kernel) rfl rfl (Nat.le_of_ble_eq_true rfl) dX5_append_40 (fun H locs hP hD hS => ?_)
  have hP : va_P D vwCl [(h0, .inr (6, [.ref h1, .int (nI (n + 4))])), (h1, .inl (cI, 440, .inl f8))] H := hP
  have hD : va_D A [(h0, .inr (6, [.ref h1, .int (nI (n + 4))])), (h1, .inl (cI, 440, .inl f8))] := hD
  refine lv_iinc (v := -8) (lv' := [(2, .int (-8)), (0, .ref h0), (1, .int x)]) hx hb dX5_append_43 hl (k := 0) rfl (by decide) (by decide) rfl (fun ls hl => ?_)
  refine lv_goto (tgt := 3) hx hb dX5_append_46 (by decide) ?_
  refine lv_iload_n hx hb dX5_append_3 rfl (lv_at hl 0 rfl) ?_
  refine lv_if_lt (tgt := 49) hx hb dX5_append_4 (by decide) (fun _ => ?_) (fun c9 => absurd (by decide) c9)
  have hP9 := hP.sub (ws' := [(h0, .inr (6, [.ref h1, .int (nI (n + 4))])), (h1, .inl (cI, 440, .inl f8))]) [0, 1] rfl
  have hD9 := hD.sub (ws' := [(h0, .inr (6, [.ref h1, .int (nI (n + 4))])), (h1, .inl (cI, 440, .inl f8))]) [0, 1] (by decide) rfl
  exact ss_vret f8 hx hb hr hlocks hP9 hD9 hS (trivial) (Nat.le_of_ble_eq_true rfl) (Nat.le_of_ble_eq_true rfl) dX5_append_49

theorem im_X6_init_X6 : ∀ w ∈ wsX60, w ∈ wsX6_init := fun _ h => List.mem_cons_of_mem _ (List.mem_append_right _ h)
set_option maxHeartbeats 400000 in
set_option maxRecDepth 100000 in
theorem c_Tide_init (l : Launch) (D : va_G) (cI cZ cB cO cJ : ClassId) (a0 : Nat) (sz : Nat) (h0 : Nat)  : Met l yX6_init wsX6_init ({ frames := 1, cells := 1, slots := 25, locals := 12 }) (Pcs D cI cZ cB cO cJ a0 [.ref h0] [(h0, .inr (7, [.null]))] sz) (va_Qv (fun (u : Nat) => True) (fun (u : Nat) t => va_P D vwCl [(h0, .inr (7, [.ref u])), (u, .inl (cI, 25, .inl (fun _ => 0)))] t.heap ∧ va_D (va_A [(h0, .inr (7, [.null]))] sz) [(h0, .inr (7, [.ref u])), (u, .inl (cI, 25, .inl (fun _ => 0)))]) (va_A [(h0, .inr (7, [.null]))] sz)) 1 25 (va_A [(h0, .inr (7, [.null]))] sz) := by
  refine Met.ofW (cc := cX6_init) (maxL := 1) (ret := none) (by decide) rfl ?_
  intro p e s m args below meth c s₁ B hml hv
  obtain ⟨rfl, hsz, hP, hE, hD0, hZ⟩ := hv
  have hx := B.exec
  have hb := B.bytes
  have hr := B.returns
  have hts := atoms_spec (ws := wsX6_init) B.pre
  have hown : s.vm.findClass RX6 = some m.cls := findClass_of_methodNamed B.named
  have hlocks := B.notSynchronized
  have hin := (name_of_methodNamed B.named B.method).1
  subst hsz
  have hD := hD0.self (sz := s.heap.size)
  generalize hAe : va_A [(h0, .inr (7, [.null]))] s.heap.size = A at hD hZ ⊢
  have hA : ∀ q : Nat, s.heap.size ≤ q → A q := fun q h => by rw [← hAe]; exact Or.inr h
  have hS : va_S A s.heap s.heap [] := va_S.rf
  have hP : va_P D vwCl [(h0, .inr (7, [.null]))] s.heap := hP
  have hl := lv_entry ([.ref h0]) (n := 1) (Nat.le_of_ble_eq_true rfl)
  rw [lg_entry_eq]
  generalize (lg_sl ([.ref h0]) ++ List.replicate (1 - (lg_sl ([.ref h0])).length) Slot.unset).toArray = ls at hl ⊢
  have hl : lv_has ls 1 [(0, .ref h0)] := hl
  refine lv_aload_n hx hb dX6_init_0 rfl (lv_at hl 0 rfl) ?_
  refine W.objInit hx hb hown (hts (.methodLink RX6 1 objectInit) (by decide +kernel)) (hts (.instanceMethod objectInit) (by decide +kernel)) (hts (.code objectInit ⟨#[0xb1]⟩ 1 none) (by decide +kernel)) rfl (by rw [hml]; exact hl.1) rfl dX6_init_1 (Nat.le_of_ble_eq_true rfl) (Nat.le_of_ble_eq_true rfl) ?_
  refine W.eq (g2 := F0 m 4 ls []) rfl ?_
  refine lv_aload_n hx hb dX6_init_4 rfl (lv_at hl 0 rfl) ?_
  refine lv_bipush (v := 25) hx hb dX6_init_5 (by decide) ?_
  refine nw_arr (atype := .int) (ty := .int) (N' := 25) (a0 := (25, .inl (fun _ => 0))) hx hb (hts (.arrayClass .int) (by decide +kernel)) rfl hE.1 hP hD hS hA 0 rfl (fun C h => by cases h) (fun _ => rfl) (by decide) (by decide) (Nat.le_of_ble_eq_true rfl) (Nat.le_of_ble_eq_true rfl) (Nat.le_of_ble_eq_true rfl) dX6_init_7 (fun q1 H hP hD hS => ?_)
  have hP : va_P D vwCl [(h0, .inr (7, [.null])), (q1, .inl (cI, 25, .inl (fun _ => 0)))] H := hP
  have hD : va_D A [(h0, .inr (7, [.null])), (q1, .inl (cI, 25, .inl (fun _ => 0)))] := hD
  refine va_putF (D := D) (ci := 7) (v := .ref q1) (ty := .array .int) (C := RX6) (T := TX6) (N := 1) hx hb hts im_X6_init_X6 tyX6 tyX6_ok nmX6 hown hE.1 hP hD hS 0 rfl rfl 0 (by decide) (hts (.fieldLink RX6 9 "RiverBridges$Tide" "levels" "[I") (by decide +kernel)) (fun _ h9 => h9) rfl hin rfl (by decide +kernel) rfl rfl (Nat.le_of_ble_eq_true rfl) dX6_init_9 (fun H locs hP hD hS => ?_)
  have hP : va_P D vwCl [(h0, .inr (7, [.ref q1])), (q1, .inl (cI, 25, .inl (fun _ => 0)))] H := hP
  have hD : va_D A [(h0, .inr (7, [.ref q1])), (q1, .inl (cI, 25, .inl (fun _ => 0)))] := hD
  have hP9 := hP.sub (ws' := [(h0, .inr (7, [.ref q1])), (q1, .inl (cI, 25, .inl (fun _ => 0)))]) [0, 1] rfl
  have hD9 := hD.sub (ws' := [(h0, .inr (7, [.ref q1])), (q1, .inl (cI, 25, .inl (fun _ => 0)))]) [0, 1] (by decide) rfl
  exact ss_vret q1 hx hb hr hlocks hP9 hD9 hS (trivial) (Nat.le_of_ble_eq_true rfl) (Nat.le_of_ble_eq_true rfl) dX6_init_12

theorem im_X6_takeFrom_X5 : ∀ w ∈ wsX50, w ∈ wsX6_takeFrom := fun _ h => List.mem_cons_of_mem _ (List.mem_append_left _ (List.mem_append_right _ h))
set_option maxHeartbeats 400000 in
set_option maxRecDepth 100000 in
theorem c_Tide_takeFrom (l : Launch) (D : va_G) (cI cZ cB cO cJ : ClassId) (a0 : Nat) (sz : Nat) (h0 h1 h2 h3 : Nat)  : Met l yX6_takeFrom wsX6_takeFrom ({ frames := 0, cells := 0, slots := 0, locals := 0 }) (Pcs D cI cZ cB cO cJ a0 [.ref h0, .ref h1] [(h0, .inr (7, [.ref h2])), (h1, .inr (6, [.ref h3, .int 0]))] sz) (va_Qi (fun (r : Int32) (u : Unit) => r = 0) (fun (u : Unit) t => va_P D vwCl [(h0, .inr (7, [.ref h2])), (h1, .inr (6, [.ref h3, .int 0]))] t.heap ∧ va_D (va_A [(h0, .inr (7, [.ref h2])), (h1, .inr (6, [.ref h3, .int 0]))] sz) [(h0, .inr (7, [.ref h2])), (h1, .inr (6, [.ref h3, .int 0]))]) (va_A [(h0, .inr (7, [.ref h2])), (h1, .inr (6, [.ref h3, .int 0]))] sz)) 0 0 (va_A [(h0, .inr (7, [.ref h2])), (h1, .inr (6, [.ref h3, .int 0]))] sz) := by
  refine Met.ofW (cc := cX6_takeFrom) (maxL := 3) (ret := (some .boolean)) (by decide) rfl ?_
  intro p e s m args below meth c s₁ B hml hv
  obtain ⟨rfl, hsz, hP, hE, hD0, hZ⟩ := hv
  have hx := B.exec
  have hb := B.bytes
  have hr := B.returns
  have hts := atoms_spec (ws := wsX6_takeFrom) B.pre
  have hown : s.vm.findClass RX6 = some m.cls := findClass_of_methodNamed B.named
  have hlocks := B.notSynchronized
  have hin := (name_of_methodNamed B.named B.method).1
  subst hsz
  have hD := hD0.self (sz := s.heap.size)
  generalize hAe : va_A [(h0, .inr (7, [.ref h2])), (h1, .inr (6, [.ref h3, .int 0]))] s.heap.size = A at hD hZ ⊢
  have hA : ∀ q : Nat, s.heap.size ≤ q → A q := fun q h => by rw [← hAe]; exact Or.inr h
  have hS : va_S A s.heap s.heap [] := va_S.rf
  have hP : va_P D vwCl [(h0, .inr (7, [.ref h2])), (h1, .inr (6, [.ref h3, .int 0]))] s.heap := hP
  have hl := lv_entry ([.ref h0, .ref h1]) (n := 3) (Nat.le_of_ble_eq_true rfl)
  rw [lg_entry_eq]
  generalize (lg_sl ([.ref h0, .ref h1]) ++ List.replicate (3 - (lg_sl ([.ref h0, .ref h1])).length) Slot.unset).toArray = ls at hl ⊢
  have hl : lv_has ls 3 [(0, .ref h0), (1, .ref h1)] := hl
  refine lv_aload_n hx hb dX6_takeFrom_0 rfl (lv_at hl 1 rfl) ?_
  refine va_get (D := D) (ci := 6) (v := .int 0) (C := RX5) (T := TX5) (N := 2) hx hb hts im_X6_takeFrom_X5 hown hE.1 hP 1 rfl rfl 1 (by decide) (hts (.fieldLink RX6 13 "RiverBridges$Tape" "size" "I") (by decide +kernel)) (fun _ h9 => h9) rfl dX6_takeFrom_1 ?_
  refine lv_bipush (v := 25) hx hb dX6_takeFrom_4 (by decide) ?_
  refine lv_icmp_eq (tgt := 11) hx hb dX6_takeFrom_6 (by decide) (fun c9 => absurd c9 (by decide)) (fun _ => ?_)
  refine lv_iconst (v := 0) hx hb dX6_takeFrom_9 (by decide) ?_
  have hP9 := hP.sub (ws' := [(h0, .inr (7, [.ref h2])), (h1, .inr (6, [.ref h3, .int 0]))]) [0, 1] rfl
  have hD9 := hD.sub (ws' := [(h0, .inr (7, [.ref h2])), (h1, .inr (6, [.ref h3, .int 0]))]) [0, 1] (by decide) rfl
  exact ss_zret () hx hb hr hlocks (by decide) hP9 hD9 hS (rfl) (Nat.le_of_ble_eq_true rfl) (Nat.le_of_ble_eq_true rfl) dX6_takeFrom_10

theorem im_X6_levelIn_X6 : ∀ w ∈ wsX60, w ∈ wsX6_levelIn := fun _ h => List.mem_cons_of_mem _ (List.mem_append_right _ h)
set_option maxHeartbeats 400000 in
set_option maxRecDepth 100000 in
theorem c_Tide_levelIn (l : Launch) (D : va_G) (cI cZ cB cO cJ : ClassId) (a0 : Nat) (sz : Nat) (h0 h1 k : Nat) (m9 : Int32) (hk : k ≤ 1440) (hm9 : m9 = nI k) : Met l yX6_levelIn wsX6_levelIn ({ frames := 0, cells := 0, slots := 0, locals := 0 }) (Pcs D cI cZ cB cO cJ a0 [.ref h0, .int m9] [(h0, .inr (7, [.ref h1])), (h1, .inl (cI, 25, .inl (fun _ => 0)))] sz) (va_Qi (fun (r : Int32) (u : Unit) => r = 0) (fun (u : Unit) t => va_P D vwCl [(h0, .inr (7, [.ref h1])), (h1, .inl (cI, 25, .inl (fun _ => 0)))] t.heap ∧ va_D (va_A [(h0, .inr (7, [.ref h1])), (h1, .inl (cI, 25, .inl (fun _ => 0)))] sz) [(h0, .inr (7, [.ref h1])), (h1, .inl (cI, 25, .inl (fun _ => 0)))]) (va_A [(h0, .inr (7, [.ref h1])), (h1, .inl (cI, 25, .inl (fun _ => 0)))] sz)) 0 0 (va_A [(h0, .inr (7, [.ref h1])), (h1, .inl (cI, 25, .inl (fun _ => 0)))] sz) := by
  refine Met.ofW (cc := cX6_levelIn) (maxL := 4) (ret := (some .int)) (by decide) rfl ?_
  intro p e s m args below meth c s₁ B hml hv
  obtain ⟨rfl, hsz, hP, hE, hD0, hZ⟩ := hv
  have hx := B.exec
  have hb := B.bytes
  have hr := B.returns
  have hts := atoms_spec (ws := wsX6_levelIn) B.pre
  have hown : s.vm.findClass RX6 = some m.cls := findClass_of_methodNamed B.named
  have hlocks := B.notSynchronized
  have hin := (name_of_methodNamed B.named B.method).1
  subst hsz
  have hD := hD0.self (sz := s.heap.size)
  generalize hAe : va_A [(h0, .inr (7, [.ref h1])), (h1, .inl (cI, 25, .inl (fun _ => 0)))] s.heap.size = A at hD hZ ⊢
  have hA : ∀ q : Nat, s.heap.size ≤ q → A q := fun q h => by rw [← hAe]; exact Or.inr h
  have hS : va_S A s.heap s.heap [] := va_S.rf
  have hP : va_P D vwCl [(h0, .inr (7, [.ref h1])), (h1, .inl (cI, 25, .inl (fun _ => 0)))] s.heap := hP
  have hl := lv_entry ([.ref h0, .int m9]) (n := 4) (Nat.le_of_ble_eq_true rfl)
  rw [lg_entry_eq]
  generalize (lg_sl ([.ref h0, .int m9]) ++ List.replicate (4 - (lg_sl ([.ref h0, .int m9])).length) Slot.unset).toArray = ls at hl ⊢
  have hl : lv_has ls 4 [(0, .ref h0), (1, .int m9)] := hl
  refine lv_iload_n hx hb dX6_levelIn_0 rfl (lv_at hl 1 rfl) ?_
  refine lv_bipush (v := 60) hx hb dX6_levelIn_1 (by decide) ?_
  refine lv_idiv hx hb dX6_levelIn_3 (by decide) ?_
  refine lv_topi (fun z1 ez1 => ?_)
  have ez12 : z1 = nI (k / 60) := ez1.trans (by rw [hm9]; exact pk_div (by omega) (by decide) (by decide))
  subst ez12
  refine lv_istore_n (lv' := [(2, .int (nI (k / 60))), (0, .ref h0), (1, .int m9)]) hx hb dX6_levelIn_4 rfl hl (by decide) rfl (fun ls hl => ?_)
  refine lv_iload_n hx hb dX6_levelIn_5 rfl (lv_at hl 2 rfl) ?_
  refine lv_bipush (v := 60) hx hb dX6_levelIn_6 (by decide) ?_
  refine lv_irem hx hb dX6_levelIn_8 (by decide) ?_
  refine lv_topi (fun z2 ez2 => ?_)
  have ez22 : z2 = nI (k % 60) := ez2.trans (by rw [hm9]; exact pk_rem (by omega) (by decide) (by decide))
  subst ez22
  refine lv_istore_n (lv' := [(3, .int (nI (k % 60))), (2, .int (nI (k / 60))), (0, .ref h0), (1, .int m9)]) hx hb dX6_levelIn_9 rfl hl (by decide) rfl (fun ls hl => ?_)
  refine lv_iload_n hx hb dX6_levelIn_10 rfl (lv_at hl 0 rfl) ?_
  refine lv_if_ne (tgt := 21) hx hb dX6_levelIn_11 (by decide) (fun cq => ?_) (fun cq => ?_)
  · refine lv_aload_n hx hb dX6_levelIn_21 rfl (lv_at hl 2 rfl) ?_
    refine va_get (D := D) (ci := 7) (v := .ref h1) (C := RX6) (T := TX6) (N := 1) hx hb hts im_X6_levelIn_X6 hown hE.1 hP 0 rfl rfl 0 (by decide) (hts (.fieldLink RX6 9 "RiverBridges$Tide" "levels" "[I") (by decide +kernel)) (fun _ h9 => h9) rfl dX6_levelIn_22 ?_
    refine lv_iload_n hx hb dX6_levelIn_25 rfl (lv_at hl 1 rfl) ?_
    refine lx_iald (v := 0) hx hb hE.1 hP 1 0 rfl rfl (vp_in_nI (by omega) (by omega)) (rfl) dX6_levelIn_26 ?_
    refine lv_aload_n hx hb dX6_levelIn_27 rfl (lv_at hl 2 rfl) ?_
    refine va_get (D := D) (ci := 7) (v := .ref h1) (C := RX6) (T := TX6) (N := 1) hx hb hts im_X6_levelIn_X6 hown hE.1 hP 0 rfl rfl 0 (by decide) (hts (.fieldLink RX6 9 "RiverBridges$Tide" "levels" "[I") (by decide +kernel)) (fun _ h9 => h9) rfl dX6_levelIn_28 ?_
    refine lv_iload_n hx hb dX6_levelIn_31 rfl (lv_at hl 1 rfl) ?_
    refine lv_iconst (v := 1) hx hb dX6_levelIn_32 (by decide) ?_
    refine lx_iadd (v := nI (k / 60 + 1)) hx hb (nI_1 _) dX6_levelIn_33 ?_
    have hm : k % 60 ≠ 0 := fun q => cq (by rw [q]; rfl)
    refine lx_iald (v := 0) hx hb hE.1 hP 1 0 rfl rfl (vp_in_nI (by omega) (by omega)) (rfl) dX6_levelIn_34 ?_
    refine lv_aload_n hx hb dX6_levelIn_35 rfl (lv_at hl 2 rfl) ?_
    refine va_get (D := D) (ci := 7) (v := .ref h1) (C := RX6) (T := TX6) (N := 1) hx hb hts im_X6_levelIn_X6 hown hE.1 hP 0 rfl rfl 0 (by decide) (hts (.fieldLink RX6 9 "RiverBridges$Tide" "levels" "[I") (by decide +kernel)) (fun _ h9 => h9) rfl dX6_levelIn_36 ?_
    refine lv_iload_n hx hb dX6_levelIn_39 rfl (lv_at hl 1 rfl) ?_
    refine lx_iald (v := 0) hx hb hE.1 hP 1 0 rfl rfl (vp_in_nI (by omega) (by omega)) (rfl) dX6_levelIn_40 ?_
    refine lx_isub (v := 0) hx hb (by decide) dX6_levelIn_41 ?_
    refine lv_iload_n hx hb dX6_levelIn_42 rfl (lv_at hl 0 rfl) ?_
    refine lx_imul (v := 0) hx hb (Int32.zero_mul) dX6_levelIn_43 ?_
    refine lv_bipush (v := 60) hx hb dX6_levelIn_44 (by decide) ?_
    refine lv_idiv hx hb dX6_levelIn_46 (by decide) ?_
    refine lv_topi (fun z3 ez3 => ?_)
    have ez32 : z3 = 0 := ez3.trans (by decide)
    subst ez32
    refine lx_iadd (v := 0) hx hb (by decide) dX6_levelIn_47 ?_
    have hP9 := hP.sub (ws' := [(h0, .inr (7, [.ref h1])), (h1, .inl (cI, 25, .inl (fun _ => 0)))]) [0, 1] rfl
    have hD9 := hD.sub (ws' := [(h0, .inr (7, [.ref h1])), (h1, .inl (cI, 25, .inl (fun _ => 0)))]) [0, 1] (by decide) rfl
    exact ss_iret () hx hb hr hlocks hP9 hD9 hS (rfl) (Nat.le_of_ble_eq_true rfl) (Nat.le_of_ble_eq_true rfl) dX6_levelIn_48
  · refine lv_aload_n hx hb dX6_levelIn_14 rfl (lv_at hl 2 rfl) ?_
    refine va_get (D := D) (ci := 7) (v := .ref h1) (C := RX6) (T := TX6) (N := 1) hx hb hts im_X6_levelIn_X6 hown hE.1 hP 0 rfl rfl 0 (by decide) (hts (.fieldLink RX6 9 "RiverBridges$Tide" "levels" "[I") (by decide +kernel)) (fun _ h9 => h9) rfl dX6_levelIn_15 ?_
    refine lv_iload_n hx hb dX6_levelIn_18 rfl (lv_at hl 1 rfl) ?_
    refine lx_iald (v := 0) hx hb hE.1 hP 1 0 rfl rfl (vp_in_nI (by omega) (by omega)) (rfl) dX6_levelIn_19 ?_
    have hP9 := hP.sub (ws' := [(h0, .inr (7, [.ref h1])), (h1, .inl (cI, 25, .inl (fun _ => 0)))]) [0, 1] rfl
    have hD9 := hD.sub (ws' := [(h0, .inr (7, [.ref h1])), (h1, .inl (cI, 25, .inl (fun _ => 0)))]) [0, 1] (by decide) rfl
    exact ss_iret () hx hb hr hlocks hP9 hD9 hS (rfl) (Nat.le_of_ble_eq_true rfl) (Nat.le_of_ble_eq_true rfl) dX6_levelIn_20

theorem im_X7_init_X7 : ∀ w ∈ wsX70, w ∈ wsX7_init := fun _ h => List.mem_cons_of_mem _ (List.mem_append_right _ h)
set_option maxHeartbeats 400000 in
set_option maxRecDepth 100000 in
theorem c_Tt_init (l : Launch) (D : va_G) (cI cZ cB cO cJ : ClassId) (a0 : Nat) (sz : Nat) (h0 : Nat)  : Met l yX7_init wsX7_init ({ frames := 1, cells := 20, slots := 224, locals := 12 }) (Pcs D cI cZ cB cO cJ a0 [.ref h0] [(h0, .inr (8, [.null, .null, .null, .null, .int 0]))] sz) (va_Qv (fun (u : Nat × Nat × Nat × Nat) => True) (fun (u : Nat × Nat × Nat × Nat) t => va_P D vwCl [(h0, .inr (8, [.ref u.1, .ref u.2.1, .ref u.2.2.1, .ref u.2.2.2, .int 0])), (u.2.2.1, .inl (cI, 8, .inl (fun _ => 0))), (u.2.2.2, .inl (cZ, 8, .inl (fun _ => 0)))] t.heap ∧ va_D (va_A [(h0, .inr (8, [.null, .null, .null, .null, .int 0]))] sz) [(h0, .inr (8, [.ref u.1, .ref u.2.1, .ref u.2.2.1, .ref u.2.2.2, .int 0])), (u.2.2.1, .inl (cI, 8, .inl (fun _ => 0))), (u.2.2.2, .inl (cZ, 8, .inl (fun _ => 0)))]) (va_A [(h0, .inr (8, [.null, .null, .null, .null, .int 0]))] sz)) 20 224 (va_A [(h0, .inr (8, [.null, .null, .null, .null, .int 0]))] sz) := by
  refine Met.ofW (cc := cX7_init) (maxL := 1) (ret := none) (by decide) rfl ?_
  intro p e s m args below meth c s₁ B hml hv
  obtain ⟨rfl, hsz, hP, hE, hD0, hZ⟩ := hv
  have hx := B.exec
  have hb := B.bytes
  have hr := B.returns
  have hts := atoms_spec (ws := wsX7_init) B.pre
  have hown : s.vm.findClass RX7 = some m.cls := findClass_of_methodNamed B.named
  have hlocks := B.notSynchronized
  have hin := (name_of_methodNamed B.named B.method).1
  subst hsz
  have hD := hD0.self (sz := s.heap.size)
  generalize hAe : va_A [(h0, .inr (8, [.null, .null, .null, .null, .int 0]))] s.heap.size = A at hD hZ ⊢
  have hA : ∀ q : Nat, s.heap.size ≤ q → A q := fun q h => by rw [← hAe]; exact Or.inr h
  have hS : va_S A s.heap s.heap [] := va_S.rf
  have hP : va_P D vwCl [(h0, .inr (8, [.null, .null, .null, .null, .int 0]))] s.heap := hP
  have hl := lv_entry ([.ref h0]) (n := 1) (Nat.le_of_ble_eq_true rfl)
  rw [lg_entry_eq]
  generalize (lg_sl ([.ref h0]) ++ List.replicate (1 - (lg_sl ([.ref h0])).length) Slot.unset).toArray = ls at hl ⊢
  have hl : lv_has ls 1 [(0, .ref h0)] := hl
  refine lv_aload_n hx hb dX7_init_0 rfl (lv_at hl 0 rfl) ?_
  refine W.objInit hx hb hown (hts (.methodLink RX7 3 objectInit) (by decide +kernel)) (hts (.instanceMethod objectInit) (by decide +kernel)) (hts (.code objectInit ⟨#[0xb1]⟩ 1 none) (by decide +kernel)) rfl (by rw [hml]; exact hl.1) rfl dX7_init_1 (Nat.le_of_ble_eq_true rfl) (Nat.le_of_ble_eq_true rfl) ?_
  refine W.eq (g2 := F0 m 4 ls []) rfl ?_
  refine lv_aload_n hx hb dX7_init_4 rfl (lv_at hl 0 rfl) ?_
  refine lv_bipush (v := 8) hx hb dX7_init_5 (by decide) ?_
  refine lv_bipush (v := 12) hx hb dX7_init_7 (by decide) ?_
  refine nw_mna (ty := .int) (cy := cI) (N' := 8) (K' := 12) (z := (12, .inl (fun _ => 0))) hx hb hown (by rw [mna_s1]; exact (hts (.classLink RX7 11 "[[I") (by decide +kernel))) hE.2.2.2.2.2.2.2.1 (hts (.arrayClass .int) (by decide +kernel)) (by rw [mna_s2]; exact (hE.1.2 0 _ rfl).2) hE.1 hP hD hS hA (by decide) (by decide) (by decide) (by decide) (Nat.le_of_ble_eq_true rfl) (Nat.le_of_ble_eq_true rfl) (Nat.le_of_ble_eq_true rfl) rfl rfl (Nat.le_of_ble_eq_true rfl) (Nat.le_of_ble_eq_true rfl) (fun _ => rfl) dX7_init_9 (fun q1 H hP hD hS => ?_)
  refine va_putF (D := D) (ci := 8) (v := .ref q1) (ty := .array (.array .int)) (C := RX7) (T := TX7) (N := 5) hx hb hts im_X7_init_X7 tyX7 tyX7_ok nmX7 hown hE.1 hP hD hS 0 rfl rfl 0 (by decide) (hts (.fieldLink RX7 13 "RiverBridges$Timetable" "first" "[[I") (by decide +kernel)) (fun _ h9 => h9) rfl hin rfl (by decide +kernel) rfl rfl (Nat.le_of_ble_eq_true rfl) dX7_init_13 (fun H locs hP hD hS => ?_)
  have hP : va_P D vwCl [(h0, .inr (8, [.ref q1, .null, .null, .null, .int 0]))] H := hP
  have hD : va_D A [(h0, .inr (8, [.ref q1, .null, .null, .null, .int 0]))] := hD
  refine lv_aload_n hx hb dX7_init_16 rfl (lv_at hl 0 rfl) ?_
  refine lv_bipush (v := 8) hx hb dX7_init_17 (by decide) ?_
  refine lv_bipush (v := 12) hx hb dX7_init_19 (by decide) ?_
  refine nw_mna (ty := .int) (cy := cI) (N' := 8) (K' := 12) (z := (12, .inl (fun _ => 0))) hx hb hown (by rw [mna_s1]; exact (hts (.classLink RX7 11 "[[I") (by decide +kernel))) hE.2.2.2.2.2.2.2.1 (hts (.arrayClass .int) (by decide +kernel)) (by rw [mna_s2]; exact (hE.1.2 0 _ rfl).2) hE.1 hP hD hS hA (by decide) (by decide) (by decide) (by decide) (Nat.le_of_ble_eq_true rfl) (Nat.le_of_ble_eq_true rfl) (Nat.le_of_ble_eq_true rfl) rfl rfl (Nat.le_of_ble_eq_true rfl) (Nat.le_of_ble_eq_true rfl) (fun _ => rfl) dX7_init_21 (fun q2 H hP hD hS => ?_)
  refine va_putF (D := D) (ci := 8) (v := .ref q2) (ty := .array (.array .int)) (C := RX7) (T := TX7) (N := 5) hx hb hts im_X7_init_X7 tyX7 tyX7_ok nmX7 hown hE.1 hP hD hS 0 rfl rfl 1 (by decide) (hts (.fieldLink RX7 16 "RiverBridges$Timetable" "last" "[[I") (by decide +kernel)) (fun _ h9 => h9) rfl hin rfl (by decide +kernel) rfl rfl (Nat.le_of_ble_eq_true rfl) dX7_init_25 (fun H locs hP hD hS => ?_)
  have hP : va_P D vwCl [(h0, .inr (8, [.ref q1, .ref q2, .null, .null, .int 0]))] H := hP
  have hD : va_D A [(h0, .inr (8, [.ref q1, .ref q2, .null, .null, .int 0]))] := hD
  refine lv_aload_n hx hb dX7_init_28 rfl (lv_at hl 0 rfl) ?_
  refine lv_bipush (v := 8) hx hb dX7_init_29 (by decide) ?_
  refine nw_arr (atype := .int) (ty := .int) (N' := 8) (a0 := (8, .inl (fun _ => 0))) hx hb (hts (.arrayClass .int) (by decide +kernel)) rfl hE.1 hP hD hS hA 0 rfl (fun C h => by cases h) (fun _ => rfl) (by decide) (by decide) (Nat.le_of_ble_eq_true rfl) (Nat.le_of_ble_eq_true rfl) (Nat.le_of_ble_eq_true rfl) dX7_init_31 (fun q3 H hP hD hS => ?_)
  have hP : va_P D vwCl [(h0, .inr (8, [.ref q1, .ref q2, .null, .null, .int 0])), (q3, .inl (cI, 8, .inl (fun _ => 0)))] H := hP
  have hD : va_D A [(h0, .inr (8, [.ref q1, .ref q2, .null, .null, .int 0])), (q3, .inl (cI, 8, .inl (fun _ => 0)))] := hD
  refine va_putF (D := D) (ci := 8) (v := .ref q3) (ty := .array .int) (C := RX7) (T := TX7) (N := 5) hx hb hts im_X7_init_X7 tyX7 tyX7_ok nmX7 hown hE.1 hP hD hS 0 rfl rfl 2 (by decide) (hts (.fieldLink RX7 19 "RiverBridges$Timetable" "spans" "[I") (by decide +kernel)) (fun _ h9 => h9) rfl hin rfl (by decide +kernel) rfl rfl (Nat.le_of_ble_eq_true rfl) dX7_init_33 (fun H locs hP hD hS => ?_)
  have hP : va_P D vwCl [(h0, .inr (8, [.ref q1, .ref q2, .ref q3, .null, .int 0])), (q3, .inl (cI, 8, .inl (fun _ => 0)))] H := hP
  have hD : va_D A [(h0, .inr (8, [.ref q1, .ref q2, .ref q3, .null, .int 0])), (q3, .inl (cI, 8, .inl (fun _ => 0)))] := hD
  refine lv_aload_n hx hb dX7_init_36 rfl (lv_at hl 0 rfl) ?_
  refine lv_bipush (v := 8) hx hb dX7_init_37 (by decide) ?_
  refine nw_arr (atype := .boolean) (ty := .boolean) (N' := 8) (a0 := (8, .inl (fun _ => 0))) hx hb (hts (.arrayClass .boolean) (by decide +kernel)) rfl hE.1 hP hD hS hA 1 rfl (fun C h => by cases h) (fun _ => rfl) (by decide) (by decide) (Nat.le_of_ble_eq_true rfl) (Nat.le_of_ble_eq_true rfl) (Nat.le_of_ble_eq_true rfl) dX7_init_39 (fun q4 H hP hD hS => ?_)
  have hP : va_P D vwCl [(h0, .inr (8, [.ref q1, .ref q2, .ref q3, .null, .int 0])), (q3, .inl (cI, 8, .inl (fun _ => 0))), (q4, .inl (cZ, 8, .inl (fun _ => 0)))] H := hP
  have hD : va_D A [(h0, .inr (8, [.ref q1, .ref q2, .ref q3, .null, .int 0])), (q3, .inl (cI, 8, .inl (fun _ => 0))), (q4, .inl (cZ, 8, .inl (fun _ => 0)))] := hD
  refine va_putF (D := D) (ci := 8) (v := .ref q4) (ty := .array .boolean) (C := RX7) (T := TX7) (N := 5) hx hb hts im_X7_init_X7 tyX7 tyX7_ok nmX7 hown hE.1 hP hD hS 0 rfl rfl 3 (by decide) (hts (.fieldLink RX7 23 "RiverBridges$Timetable" "isTold" "[Z") (by decide +kernel)) (fun _ h9 => h9) rfl hin rfl (by decide +kernel) rfl rfl (Nat.le_of_ble_eq_true rfl) dX7_init_41 (fun H locs hP hD hS => ?_)
  have hP : va_P D vwCl [(h0, .inr (8, [.ref q1, .ref q2, .ref q3, .ref q4, .int 0])), (q3, .inl (cI, 8, .inl (fun _ => 0))), (q4, .inl (cZ, 8, .inl (fun _ => 0)))] H := hP
  have hD : va_D A [(h0, .inr (8, [.ref q1, .ref q2, .ref q3, .ref q4, .int 0])), (q3, .inl (cI, 8, .inl (fun _ => 0))), (q4, .inl (cZ, 8, .inl (fun _ => 0)))] := hD
  refine lv_aload_n hx hb dX7_init_44 rfl (lv_at hl 0 rfl) ?_
  refine lv_iconst (v := 0) hx hb dX7_init_45 (by decide) ?_
  refine va_put (D := D) (ci := 8) (v := .int 0) (ty := .int) (C := RX7) (T := TX7) (N := 5) hx hb hts im_X7_init_X7 tyX7 tyX7_ok nmX7 hown hE.1 hP hD hS 0 rfl rfl 4 (by decide) (hts (.fieldLink RX7 27 "RiverBridges$Timetable" "bridgesTold" "I") (by decide +kernel)) (fun _ h9 => h9) rfl (by decide +kernel) rfl rfl (Nat.le_of_ble_eq_true rfl) dX7_init_46 (fun H locs hP hD hS => ?_)
  have hP : va_P D vwCl [(h0, .inr (8, [.ref q1, .ref q2, .ref q3, .ref q4, .int 0])), (q3, .inl (cI, 8, .inl (fun _ => 0))), (q4, .inl (cZ, 8, .inl (fun _ => 0)))] H := hP
  have hD : va_D A [(h0, .inr (8, [.ref q1, .ref q2, .ref q3, .ref q4, .int 0])), (q3, .inl (cI, 8, .inl (fun _ => 0))), (q4, .inl (cZ, 8, .inl (fun _ => 0)))] := hD
  have hP9 := hP.sub (ws' := [(h0, .inr (8, [.ref q1, .ref q2, .ref q3, .ref q4, .int 0])), (q3, .inl (cI, 8, .inl (fun _ => 0))), (q4, .inl (cZ, 8, .inl (fun _ => 0)))]) [0, 1, 2] rfl
  have hD9 := hD.sub (ws' := [(h0, .inr (8, [.ref q1, .ref q2, .ref q3, .ref q4, .int 0])), (q3, .inl (cI, 8, .inl (fun _ => 0))), (q4, .inl (cZ, 8, .inl (fun _ => 0)))]) [0, 1, 2] (by decide) rfl
  exact ss_vret (q1, q2, q3, q4) hx hb hr hlocks hP9 hD9 hS (trivial) (Nat.le_of_ble_eq_true rfl) (Nat.le_of_ble_eq_true rfl) dX7_init_49

theorem im_X7_clear_X7 : ∀ w ∈ wsX70, w ∈ wsX7_clear := fun _ h => List.mem_cons_of_mem _ (List.mem_append_right _ h)
set_option maxHeartbeats 400000 in
set_option maxRecDepth 100000 in
theorem c_Tt_clear (l : Launch) (D : va_G) (cI cZ cB cO cJ : ClassId) (a0 : Nat) (sz : Nat) (h0 h1 h2 h3 h4 : Nat) (f g : Nat → Int32) (b : Int32)  : Met l yX7_clear wsX7_clear ({ frames := 0, cells := 0, slots := 0, locals := 0 }) (Pcs D cI cZ cB cO cJ a0 [.ref h0] [(h0, .inr (8, [.ref h1, .ref h2, .ref h3, .ref h4, .int b])), (h3, .inl (cI, 8, .inl f)), (h4, .inl (cZ, 8, .inl g))] sz) (va_Qv (fun (u : (Nat → Int32) × (Nat → Int32)) => True) (fun (u : (Nat → Int32) × (Nat → Int32)) t => va_P D vwCl [(h0, .inr (8, [.ref h1, .ref h2, .ref h3, .ref h4, .int 0])), (h3, .inl (cI, 8, .inl u.1)), (h4, .inl (cZ, 8, .inl u.2))] t.heap ∧ va_D (va_A [(h0, .inr (8, [.ref h1, .ref h2, .ref h3, .ref h4, .int b])), (h3, .inl (cI, 8, .inl f)), (h4, .inl (cZ, 8, .inl g))] sz) [(h0, .inr (8, [.ref h1, .ref h2, .ref h3, .ref h4, .int 0])), (h3, .inl (cI, 8, .inl u.1)), (h4, .inl (cZ, 8, .inl u.2))]) (va_A [(h0, .inr (8, [.ref h1, .ref h2, .ref h3, .ref h4, .int b])), (h3, .inl (cI, 8, .inl f)), (h4, .inl (cZ, 8, .inl g))] sz)) 0 0 (va_A [(h0, .inr (8, [.ref h1, .ref h2, .ref h3, .ref h4, .int b])), (h3, .inl (cI, 8, .inl f)), (h4, .inl (cZ, 8, .inl g))] sz) := by
  refine Met.ofW (cc := cX7_clear) (maxL := 2) (ret := none) (by decide) rfl ?_
  intro p e s m args below meth c s₁ B hml hv
  obtain ⟨rfl, hsz, hP, hE, hD0, hZ⟩ := hv
  have hx := B.exec
  have hb := B.bytes
  have hr := B.returns
  have hts := atoms_spec (ws := wsX7_clear) B.pre
  have hown : s.vm.findClass RX7 = some m.cls := findClass_of_methodNamed B.named
  have hlocks := B.notSynchronized
  have hin := (name_of_methodNamed B.named B.method).1
  subst hsz
  have hD := hD0.self (sz := s.heap.size)
  generalize hAe : va_A [(h0, .inr (8, [.ref h1, .ref h2, .ref h3, .ref h4, .int b])), (h3, .inl (cI, 8, .inl f)), (h4, .inl (cZ, 8, .inl g))] s.heap.size = A at hD hZ ⊢
  have hA : ∀ q : Nat, s.heap.size ≤ q → A q := fun q h => by rw [← hAe]; exact Or.inr h
  have hS : va_S A s.heap s.heap [] := va_S.rf
  have hP : va_P D vwCl [(h0, .inr (8, [.ref h1, .ref h2, .ref h3, .ref h4, .int b])), (h3, .inl (cI, 8, .inl f)), (h4, .inl (cZ, 8, .inl g))] s.heap := hP
  have hl := lv_entry ([.ref h0]) (n := 2) (Nat.le_of_ble_eq_true rfl)
  rw [lg_entry_eq]
  generalize (lg_sl ([.ref h0]) ++ List.replicate (2 - (lg_sl ([.ref h0])).length) Slot.unset).toArray = ls at hl ⊢
  have hl : lv_has ls 2 [(0, .ref h0)] := hl
  refine lv_iconst (v := 0) hx hb dX7_clear_0 (by decide) ?_
  refine lv_istore_n (lv' := [(1, .int 0), (0, .ref h0)]) hx hb dX7_clear_1 rfl hl (by decide) rfl (fun ls hl => ?_)
  refine lv_iload_n hx hb dX7_clear_2 rfl (lv_at hl 0 rfl) ?_
  refine lv_bipush (v := 8) hx hb dX7_clear_3 (by decide) ?_
  refine lv_icmp_ge (tgt := 28) hx hb dX7_clear_5 (by decide) (fun c9 => absurd c9 (by decide)) (fun _ => ?_)
  refine lv_aload_n hx hb dX7_clear_8 rfl (lv_at hl 1 rfl) ?_
  refine va_get (D := D) (ci := 8) (v := .ref h3) (C := RX7) (T := TX7) (N := 5) hx hb hts im_X7_clear_X7 hown hE.1 hP 0 rfl rfl 2 (by decide) (hts (.fieldLink RX7 19 "RiverBridges$Timetable" "spans" "[I") (by decide +kernel)) (fun _ h9 => h9) rfl dX7_clear_9 ?_
  refine lv_iload_n hx hb dX7_clear_12 rfl (lv_at hl 0 rfl) ?_
  refine lv_iconst (v := 0) hx hb dX7_clear_13 (by decide) ?_
  refine lx_iast (g := upd f 0 0) hx hb hE.1 hP hD hS 1 0 rfl rfl (by unfold vp_in; decide) (rfl) dX7_clear_14 (fun H locs hP hD hS => ?_)
  have hP : va_P D vwCl [(h0, .inr (8, [.ref h1, .ref h2, .ref h3, .ref h4, .int b])), (h3, .inl (cI, 8, .inl (upd f 0 0))), (h4, .inl (cZ, 8, .inl g))] H := hP
  have hD : va_D A [(h0, .inr (8, [.ref h1, .ref h2, .ref h3, .ref h4, .int b])), (h3, .inl (cI, 8, .inl (upd f 0 0))), (h4, .inl (cZ, 8, .inl g))] := hD
  generalize (upd f 0 0) = f1 at hP hD
  refine lv_aload_n hx hb dX7_clear_15 rfl (lv_at hl 1 rfl) ?_
  refine va_get (D := D) (ci := 8) (v := .ref h4) (C := RX7) (T := TX7) (N := 5) hx hb hts im_X7_clear_X7 hown hE.1 hP 0 rfl rfl 3 (by decide) (hts (.fieldLink RX7 23 "RiverBridges$Timetable" "isTold" "[Z") (by decide +kernel)) (fun _ h9 => h9) rfl dX7_clear_16 ?_
  refine lv_iload_n hx hb dX7_clear_19 rfl (lv_at hl 0 rfl) ?_
  refine lv_iconst (v := 0) hx hb dX7_clear_20 (by decide) ?_
  refine lx_zast (g := upd g 0 (vp_nar .boolean 0)) hx hb hE.1 hP hD hS 2 1 rfl rfl (by unfold vp_in; decide) (rfl) dX7_clear_21 (fun H locs hP hD hS => ?_)
  have hP : va_P D vwCl [(h0, .inr (8, [.ref h1, .ref h2, .ref h3, .ref h4, .int b])), (h3, .inl (cI, 8, .inl f1)), (h4, .inl (cZ, 8, .inl (upd g 0 (vp_nar .boolean 0))))] H := hP
  have hD : va_D A [(h0, .inr (8, [.ref h1, .ref h2, .ref h3, .ref h4, .int b])), (h3, .inl (cI, 8, .inl f1)), (h4, .inl (cZ, 8, .inl (upd g 0 (vp_nar .boolean 0))))] := hD
  generalize (upd g 0 (vp_nar .boolean 0)) = f2 at hP hD
  refine lv_iinc (v := 1) (lv' := [(1, .int 1), (0, .ref h0)]) hx hb dX7_clear_22 hl (k := 0) rfl (by decide) (by decide) rfl (fun ls hl => ?_)
  refine lv_goto (tgt := 2) hx hb dX7_clear_25 (by decide) ?_
  refine lv_iload_n hx hb dX7_clear_2 rfl (lv_at hl 0 rfl) ?_
  refine lv_bipush (v := 8) hx hb dX7_clear_3 (by decide) ?_
  refine lv_icmp_ge (tgt := 28) hx hb dX7_clear_5 (by decide) (fun c9 => absurd c9 (by decide)) (fun _ => ?_)
  refine lv_aload_n hx hb dX7_clear_8 rfl (lv_at hl 1 rfl) ?_
  refine va_get (D := D) (ci := 8) (v := .ref h3) (C := RX7) (T := TX7) (N := 5) hx hb hts im_X7_clear_X7 hown hE.1 hP 0 rfl rfl 2 (by decide) (hts (.fieldLink RX7 19 "RiverBridges$Timetable" "spans" "[I") (by decide +kernel)) (fun _ h9 => h9) rfl dX7_clear_9 ?_
  refine lv_iload_n hx hb dX7_clear_12 rfl (lv_at hl 0 rfl) ?_
  refine lv_iconst (v := 0) hx hb dX7_clear_13 (by decide) ?_
  refine lx_iast (g := upd f1 1 0) hx hb hE.1 hP hD hS 1 0 rfl rfl (by unfold vp_in; decide) (rfl) dX7_clear_14 (fun H locs hP hD hS => ?_)
  have hP : va_P D vwCl [(h0, .inr (8, [.ref h1, .ref h2, .ref h3, .ref h4, .int b])), (h3, .inl (cI, 8, .inl (upd f1 1 0))), (h4, .inl (cZ, 8, .inl f2))] H := hP
  have hD : va_D A [(h0, .inr (8, [.ref h1, .ref h2, .ref h3, .ref h4, .int b])), (h3, .inl (cI, 8, .inl (upd f1 1 0))), (h4, .inl (cZ, 8, .inl f2))] := hD
  generalize (upd f1 1 0) = f3 at hP hD
  refine lv_aload_n hx hb dX7_clear_15 rfl (lv_at hl 1 rfl) ?_
  refine va_get (D := D) (ci := 8) (v := .ref h4) (C := RX7) (T := TX7) (N := 5) hx hb hts im_X7_clear_X7 hown hE.1 hP 0 rfl rfl 3 (by decide) (hts (.fieldLink RX7 23 "RiverBridges$Timetable" "isTold" "[Z") (by decide +kernel)) (fun _ h9 => h9) rfl dX7_clear_16 ?_
  refine lv_iload_n hx hb dX7_clear_19 rfl (lv_at hl 0 rfl) ?_
  refine lv_iconst (v := 0) hx hb dX7_clear_20 (by decide) ?_
  refine lx_zast (g := upd f2 1 (vp_nar .boolean 0)) hx hb hE.1 hP hD hS 2 1 rfl rfl (by unfold vp_in; decide) (rfl) dX7_clear_21 (fun H locs hP hD hS => ?_)
  have hP : va_P D vwCl [(h0, .inr (8, [.ref h1, .ref h2, .ref h3, .ref h4, .int b])), (h3, .inl (cI, 8, .inl f3)), (h4, .inl (cZ, 8, .inl (upd f2 1 (vp_nar .boolean 0))))] H := hP
  have hD : va_D A [(h0, .inr (8, [.ref h1, .ref h2, .ref h3, .ref h4, .int b])), (h3, .inl (cI, 8, .inl f3)), (h4, .inl (cZ, 8, .inl (upd f2 1 (vp_nar .boolean 0))))] := hD
  generalize (upd f2 1 (vp_nar .boolean 0)) = f4 at hP hD
  refine lv_iinc (v := 2) (lv' := [(1, .int 2), (0, .ref h0)]) hx hb dX7_clear_22 hl (k := 0) rfl (by decide) (by decide) rfl (fun ls hl => ?_)
  refine lv_goto (tgt := 2) hx hb dX7_clear_25 (by decide) ?_
  refine lv_iload_n hx hb dX7_clear_2 rfl (lv_at hl 0 rfl) ?_
  refine lv_bipush (v := 8) hx hb dX7_clear_3 (by decide) ?_
  refine lv_icmp_ge (tgt := 28) hx hb dX7_clear_5 (by decide) (fun c9 => absurd c9 (by decide)) (fun _ => ?_)
  refine lv_aload_n hx hb dX7_clear_8 rfl (lv_at hl 1 rfl) ?_
  refine va_get (D := D) (ci := 8) (v := .ref h3) (C := RX7) (T := TX7) (N := 5) hx hb hts im_X7_clear_X7 hown hE.1 hP 0 rfl rfl 2 (by decide) (hts (.fieldLink RX7 19 "RiverBridges$Timetable" "spans" "[I") (by decide +kernel)) (fun _ h9 => h9) rfl dX7_clear_9 ?_
  refine lv_iload_n hx hb dX7_clear_12 rfl (lv_at hl 0 rfl) ?_
  refine lv_iconst (v := 0) hx hb dX7_clear_13 (by decide) ?_
  refine lx_iast (g := upd f3 2 0) hx hb hE.1 hP hD hS 1 0 rfl rfl (by unfold vp_in; decide) (rfl) dX7_clear_14 (fun H locs hP hD hS => ?_)
  have hP : va_P D vwCl [(h0, .inr (8, [.ref h1, .ref h2, .ref h3, .ref h4, .int b])), (h3, .inl (cI, 8, .inl (upd f3 2 0))), (h4, .inl (cZ, 8, .inl f4))] H := hP
  have hD : va_D A [(h0, .inr (8, [.ref h1, .ref h2, .ref h3, .ref h4, .int b])), (h3, .inl (cI, 8, .inl (upd f3 2 0))), (h4, .inl (cZ, 8, .inl f4))] := hD
  generalize (upd f3 2 0) = f5 at hP hD
  refine lv_aload_n hx hb dX7_clear_15 rfl (lv_at hl 1 rfl) ?_
  refine va_get (D := D) (ci := 8) (v := .ref h4) (C := RX7) (T := TX7) (N := 5) hx hb hts im_X7_clear_X7 hown hE.1 hP 0 rfl rfl 3 (by decide) (hts (.fieldLink RX7 23 "RiverBridges$Timetable" "isTold" "[Z") (by decide +kernel)) (fun _ h9 => h9) rfl dX7_clear_16 ?_
  refine lv_iload_n hx hb dX7_clear_19 rfl (lv_at hl 0 rfl) ?_
  refine lv_iconst (v := 0) hx hb dX7_clear_20 (by decide) ?_
  refine lx_zast (g := upd f4 2 (vp_nar .boolean 0)) hx hb hE.1 hP hD hS 2 1 rfl rfl (by unfold vp_in; decide) (rfl) dX7_clear_21 (fun H locs hP hD hS => ?_)
  have hP : va_P D vwCl [(h0, .inr (8, [.ref h1, .ref h2, .ref h3, .ref h4, .int b])), (h3, .inl (cI, 8, .inl f5)), (h4, .inl (cZ, 8, .inl (upd f4 2 (vp_nar .boolean 0))))] H := hP
  have hD : va_D A [(h0, .inr (8, [.ref h1, .ref h2, .ref h3, .ref h4, .int b])), (h3, .inl (cI, 8, .inl f5)), (h4, .inl (cZ, 8, .inl (upd f4 2 (vp_nar .boolean 0))))] := hD
  generalize (upd f4 2 (vp_nar .boolean 0)) = f6 at hP hD
  refine lv_iinc (v := 3) (lv' := [(1, .int 3), (0, .ref h0)]) hx hb dX7_clear_22 hl (k := 0) rfl (by decide) (by decide) rfl (fun ls hl => ?_)
  refine lv_goto (tgt := 2) hx hb dX7_clear_25 (by decide) ?_
  refine lv_iload_n hx hb dX7_clear_2 rfl (lv_at hl 0 rfl) ?_
  refine lv_bipush (v := 8) hx hb dX7_clear_3 (by decide) ?_
  refine lv_icmp_ge (tgt := 28) hx hb dX7_clear_5 (by decide) (fun c9 => absurd c9 (by decide)) (fun _ => ?_)
  refine lv_aload_n hx hb dX7_clear_8 rfl (lv_at hl 1 rfl) ?_
  refine va_get (D := D) (ci := 8) (v := .ref h3) (C := RX7) (T := TX7) (N := 5) hx hb hts im_X7_clear_X7 hown hE.1 hP 0 rfl rfl 2 (by decide) (hts (.fieldLink RX7 19 "RiverBridges$Timetable" "spans" "[I") (by decide +kernel)) (fun _ h9 => h9) rfl dX7_clear_9 ?_
  refine lv_iload_n hx hb dX7_clear_12 rfl (lv_at hl 0 rfl) ?_
  refine lv_iconst (v := 0) hx hb dX7_clear_13 (by decide) ?_
  refine lx_iast (g := upd f5 3 0) hx hb hE.1 hP hD hS 1 0 rfl rfl (by unfold vp_in; decide) (rfl) dX7_clear_14 (fun H locs hP hD hS => ?_)
  have hP : va_P D vwCl [(h0, .inr (8, [.ref h1, .ref h2, .ref h3, .ref h4, .int b])), (h3, .inl (cI, 8, .inl (upd f5 3 0))), (h4, .inl (cZ, 8, .inl f6))] H := hP
  have hD : va_D A [(h0, .inr (8, [.ref h1, .ref h2, .ref h3, .ref h4, .int b])), (h3, .inl (cI, 8, .inl (upd f5 3 0))), (h4, .inl (cZ, 8, .inl f6))] := hD
  generalize (upd f5 3 0) = f7 at hP hD
  refine lv_aload_n hx hb dX7_clear_15 rfl (lv_at hl 1 rfl) ?_
  refine va_get (D := D) (ci := 8) (v := .ref h4) (C := RX7) (T := TX7) (N := 5) hx hb hts im_X7_clear_X7 hown hE.1 hP 0 rfl rfl 3 (by decide) (hts (.fieldLink RX7 23 "RiverBridges$Timetable" "isTold" "[Z") (by decide +kernel)) (fun _ h9 => h9) rfl dX7_clear_16 ?_
  refine lv_iload_n hx hb dX7_clear_19 rfl (lv_at hl 0 rfl) ?_
  refine lv_iconst (v := 0) hx hb dX7_clear_20 (by decide) ?_
  refine lx_zast (g := upd f6 3 (vp_nar .boolean 0)) hx hb hE.1 hP hD hS 2 1 rfl rfl (by unfold vp_in; decide) (rfl) dX7_clear_21 (fun H locs hP hD hS => ?_)
  have hP : va_P D vwCl [(h0, .inr (8, [.ref h1, .ref h2, .ref h3, .ref h4, .int b])), (h3, .inl (cI, 8, .inl f7)), (h4, .inl (cZ, 8, .inl (upd f6 3 (vp_nar .boolean 0))))] H := hP
  have hD : va_D A [(h0, .inr (8, [.ref h1, .ref h2, .ref h3, .ref h4, .int b])), (h3, .inl (cI, 8, .inl f7)), (h4, .inl (cZ, 8, .inl (upd f6 3 (vp_nar .boolean 0))))] := hD
  generalize (upd f6 3 (vp_nar .boolean 0)) = f8 at hP hD
  refine lv_iinc (v := 4) (lv' := [(1, .int 4), (0, .ref h0)]) hx hb dX7_clear_22 hl (k := 0) rfl (by decide) (by decide) rfl (fun ls hl => ?_)
  refine lv_goto (tgt := 2) hx hb dX7_clear_25 (by decide) ?_
  refine lv_iload_n hx hb dX7_clear_2 rfl (lv_at hl 0 rfl) ?_
  refine lv_bipush (v := 8) hx hb dX7_clear_3 (by decide) ?_
  refine lv_icmp_ge (tgt := 28) hx hb dX7_clear_5 (by decide) (fun c9 => absurd c9 (by decide)) (fun _ => ?_)
  refine lv_aload_n hx hb dX7_clear_8 rfl (lv_at hl 1 rfl) ?_
  refine va_get (D := D) (ci := 8) (v := .ref h3) (C := RX7) (T := TX7) (N := 5) hx hb hts im_X7_clear_X7 hown hE.1 hP 0 rfl rfl 2 (by decide) (hts (.fieldLink RX7 19 "RiverBridges$Timetable" "spans" "[I") (by decide +kernel)) (fun _ h9 => h9) rfl dX7_clear_9 ?_
  refine lv_iload_n hx hb dX7_clear_12 rfl (lv_at hl 0 rfl) ?_
  refine lv_iconst (v := 0) hx hb dX7_clear_13 (by decide) ?_
  refine lx_iast (g := upd f7 4 0) hx hb hE.1 hP hD hS 1 0 rfl rfl (by unfold vp_in; decide) (rfl) dX7_clear_14 (fun H locs hP hD hS => ?_)
  have hP : va_P D vwCl [(h0, .inr (8, [.ref h1, .ref h2, .ref h3, .ref h4, .int b])), (h3, .inl (cI, 8, .inl (upd f7 4 0))), (h4, .inl (cZ, 8, .inl f8))] H := hP
  have hD : va_D A [(h0, .inr (8, [.ref h1, .ref h2, .ref h3, .ref h4, .int b])), (h3, .inl (cI, 8, .inl (upd f7 4 0))), (h4, .inl (cZ, 8, .inl f8))] := hD
  generalize (upd f7 4 0) = f9 at hP hD
  refine lv_aload_n hx hb dX7_clear_15 rfl (lv_at hl 1 rfl) ?_
  refine va_get (D := D) (ci := 8) (v := .ref h4) (C := RX7) (T := TX7) (N := 5) hx hb hts im_X7_clear_X7 hown hE.1 hP 0 rfl rfl 3 (by decide) (hts (.fieldLink RX7 23 "RiverBridges$Timetable" "isTold" "[Z") (by decide +kernel)) (fun _ h9 => h9) rfl dX7_clear_16 ?_
  refine lv_iload_n hx hb dX7_clear_19 rfl (lv_at hl 0 rfl) ?_
  refine lv_iconst (v := 0) hx hb dX7_clear_20 (by decide) ?_
  refine lx_zast (g := upd f8 4 (vp_nar .boolean 0)) hx hb hE.1 hP hD hS 2 1 rfl rfl (by unfold vp_in; decide) (rfl) dX7_clear_21 (fun H locs hP hD hS => ?_)
  have hP : va_P D vwCl [(h0, .inr (8, [.ref h1, .ref h2, .ref h3, .ref h4, .int b])), (h3, .inl (cI, 8, .inl f9)), (h4, .inl (cZ, 8, .inl (upd f8 4 (vp_nar .boolean 0))))] H := hP
  have hD : va_D A [(h0, .inr (8, [.ref h1, .ref h2, .ref h3, .ref h4, .int b])), (h3, .inl (cI, 8, .inl f9)), (h4, .inl (cZ, 8, .inl (upd f8 4 (vp_nar .boolean 0))))] := hD
  generalize (upd f8 4 (vp_nar .boolean 0)) = f10 at hP hD
  refine lv_iinc (v := 5) (lv' := [(1, .int 5), (0, .ref h0)]) hx hb dX7_clear_22 hl (k := 0) rfl (by decide) (by decide) rfl (fun ls hl => ?_)
  refine lv_goto (tgt := 2) hx hb dX7_clear_25 (by decide) ?_
  refine lv_iload_n hx hb dX7_clear_2 rfl (lv_at hl 0 rfl) ?_
  refine lv_bipush (v := 8) hx hb dX7_clear_3 (by decide) ?_
  refine lv_icmp_ge (tgt := 28) hx hb dX7_clear_5 (by decide) (fun c9 => absurd c9 (by decide)) (fun _ => ?_)
  refine lv_aload_n hx hb dX7_clear_8 rfl (lv_at hl 1 rfl) ?_
  refine va_get (D := D) (ci := 8) (v := .ref h3) (C := RX7) (T := TX7) (N := 5) hx hb hts im_X7_clear_X7 hown hE.1 hP 0 rfl rfl 2 (by decide) (hts (.fieldLink RX7 19 "RiverBridges$Timetable" "spans" "[I") (by decide +kernel)) (fun _ h9 => h9) rfl dX7_clear_9 ?_
  refine lv_iload_n hx hb dX7_clear_12 rfl (lv_at hl 0 rfl) ?_
  refine lv_iconst (v := 0) hx hb dX7_clear_13 (by decide) ?_
  refine lx_iast (g := upd f9 5 0) hx hb hE.1 hP hD hS 1 0 rfl rfl (by unfold vp_in; decide) (rfl) dX7_clear_14 (fun H locs hP hD hS => ?_)
  have hP : va_P D vwCl [(h0, .inr (8, [.ref h1, .ref h2, .ref h3, .ref h4, .int b])), (h3, .inl (cI, 8, .inl (upd f9 5 0))), (h4, .inl (cZ, 8, .inl f10))] H := hP
  have hD : va_D A [(h0, .inr (8, [.ref h1, .ref h2, .ref h3, .ref h4, .int b])), (h3, .inl (cI, 8, .inl (upd f9 5 0))), (h4, .inl (cZ, 8, .inl f10))] := hD
  generalize (upd f9 5 0) = f11 at hP hD
  refine lv_aload_n hx hb dX7_clear_15 rfl (lv_at hl 1 rfl) ?_
  refine va_get (D := D) (ci := 8) (v := .ref h4) (C := RX7) (T := TX7) (N := 5) hx hb hts im_X7_clear_X7 hown hE.1 hP 0 rfl rfl 3 (by decide) (hts (.fieldLink RX7 23 "RiverBridges$Timetable" "isTold" "[Z") (by decide +kernel)) (fun _ h9 => h9) rfl dX7_clear_16 ?_
  refine lv_iload_n hx hb dX7_clear_19 rfl (lv_at hl 0 rfl) ?_
  refine lv_iconst (v := 0) hx hb dX7_clear_20 (by decide) ?_
  refine lx_zast (g := upd f10 5 (vp_nar .boolean 0)) hx hb hE.1 hP hD hS 2 1 rfl rfl (by unfold vp_in; decide) (rfl) dX7_clear_21 (fun H locs hP hD hS => ?_)
  have hP : va_P D vwCl [(h0, .inr (8, [.ref h1, .ref h2, .ref h3, .ref h4, .int b])), (h3, .inl (cI, 8, .inl f11)), (h4, .inl (cZ, 8, .inl (upd f10 5 (vp_nar .boolean 0))))] H := hP
  have hD : va_D A [(h0, .inr (8, [.ref h1, .ref h2, .ref h3, .ref h4, .int b])), (h3, .inl (cI, 8, .inl f11)), (h4, .inl (cZ, 8, .inl (upd f10 5 (vp_nar .boolean 0))))] := hD
  generalize (upd f10 5 (vp_nar .boolean 0)) = f12 at hP hD
  refine lv_iinc (v := 6) (lv' := [(1, .int 6), (0, .ref h0)]) hx hb dX7_clear_22 hl (k := 0) rfl (by decide) (by decide) rfl (fun ls hl => ?_)
  refine lv_goto (tgt := 2) hx hb dX7_clear_25 (by decide) ?_
  refine lv_iload_n hx hb dX7_clear_2 rfl (lv_at hl 0 rfl) ?_
  refine lv_bipush (v := 8) hx hb dX7_clear_3 (by decide) ?_
  refine lv_icmp_ge (tgt := 28) hx hb dX7_clear_5 (by decide) (fun c9 => absurd c9 (by decide)) (fun _ => ?_)
  refine lv_aload_n hx hb dX7_clear_8 rfl (lv_at hl 1 rfl) ?_
  refine va_get (D := D) (ci := 8) (v := .ref h3) (C := RX7) (T := TX7) (N := 5) hx hb hts im_X7_clear_X7 hown hE.1 hP 0 rfl rfl 2 (by decide) (hts (.fieldLink RX7 19 "RiverBridges$Timetable" "spans" "[I") (by decide +kernel)) (fun _ h9 => h9) rfl dX7_clear_9 ?_
  refine lv_iload_n hx hb dX7_clear_12 rfl (lv_at hl 0 rfl) ?_
  refine lv_iconst (v := 0) hx hb dX7_clear_13 (by decide) ?_
  refine lx_iast (g := upd f11 6 0) hx hb hE.1 hP hD hS 1 0 rfl rfl (by unfold vp_in; decide) (rfl) dX7_clear_14 (fun H locs hP hD hS => ?_)
  have hP : va_P D vwCl [(h0, .inr (8, [.ref h1, .ref h2, .ref h3, .ref h4, .int b])), (h3, .inl (cI, 8, .inl (upd f11 6 0))), (h4, .inl (cZ, 8, .inl f12))] H := hP
  have hD : va_D A [(h0, .inr (8, [.ref h1, .ref h2, .ref h3, .ref h4, .int b])), (h3, .inl (cI, 8, .inl (upd f11 6 0))), (h4, .inl (cZ, 8, .inl f12))] := hD
  generalize (upd f11 6 0) = f13 at hP hD
  refine lv_aload_n hx hb dX7_clear_15 rfl (lv_at hl 1 rfl) ?_
  refine va_get (D := D) (ci := 8) (v := .ref h4) (C := RX7) (T := TX7) (N := 5) hx hb hts im_X7_clear_X7 hown hE.1 hP 0 rfl rfl 3 (by decide) (hts (.fieldLink RX7 23 "RiverBridges$Timetable" "isTold" "[Z") (by decide +kernel)) (fun _ h9 => h9) rfl dX7_clear_16 ?_
  refine lv_iload_n hx hb dX7_clear_19 rfl (lv_at hl 0 rfl) ?_
  refine lv_iconst (v := 0) hx hb dX7_clear_20 (by decide) ?_
  refine lx_zast (g := upd f12 6 (vp_nar .boolean 0)) hx hb hE.1 hP hD hS 2 1 rfl rfl (by unfold vp_in; decide) (rfl) dX7_clear_21 (fun H locs hP hD hS => ?_)
  have hP : va_P D vwCl [(h0, .inr (8, [.ref h1, .ref h2, .ref h3, .ref h4, .int b])), (h3, .inl (cI, 8, .inl f13)), (h4, .inl (cZ, 8, .inl (upd f12 6 (vp_nar .boolean 0))))] H := hP
  have hD : va_D A [(h0, .inr (8, [.ref h1, .ref h2, .ref h3, .ref h4, .int b])), (h3, .inl (cI, 8, .inl f13)), (h4, .inl (cZ, 8, .inl (upd f12 6 (vp_nar .boolean 0))))] := hD
  generalize (upd f12 6 (vp_nar .boolean 0)) = f14 at hP hD
  refine lv_iinc (v := 7) (lv' := [(1, .int 7), (0, .ref h0)]) hx hb dX7_clear_22 hl (k := 0) rfl (by decide) (by decide) rfl (fun ls hl => ?_)
  refine lv_goto (tgt := 2) hx hb dX7_clear_25 (by decide) ?_
  refine lv_iload_n hx hb dX7_clear_2 rfl (lv_at hl 0 rfl) ?_
  refine lv_bipush (v := 8) hx hb dX7_clear_3 (by decide) ?_
  refine lv_icmp_ge (tgt := 28) hx hb dX7_clear_5 (by decide) (fun c9 => absurd c9 (by decide)) (fun _ => ?_)
  refine lv_aload_n hx hb dX7_clear_8 rfl (lv_at hl 1 rfl) ?_
  refine va_get (D := D) (ci := 8) (v := .ref h3) (C := RX7) (T := TX7) (N := 5) hx hb hts im_X7_clear_X7 hown hE.1 hP 0 rfl rfl 2 (by decide) (hts (.fieldLink RX7 19 "RiverBridges$Timetable" "spans" "[I") (by decide +kernel)) (fun _ h9 => h9) rfl dX7_clear_9 ?_
  refine lv_iload_n hx hb dX7_clear_12 rfl (lv_at hl 0 rfl) ?_
  refine lv_iconst (v := 0) hx hb dX7_clear_13 (by decide) ?_
  refine lx_iast (g := upd f13 7 0) hx hb hE.1 hP hD hS 1 0 rfl rfl (by unfold vp_in; decide) (rfl) dX7_clear_14 (fun H locs hP hD hS => ?_)
  have hP : va_P D vwCl [(h0, .inr (8, [.ref h1, .ref h2, .ref h3, .ref h4, .int b])), (h3, .inl (cI, 8, .inl (upd f13 7 0))), (h4, .inl (cZ, 8, .inl f14))] H := hP
  have hD : va_D A [(h0, .inr (8, [.ref h1, .ref h2, .ref h3, .ref h4, .int b])), (h3, .inl (cI, 8, .inl (upd f13 7 0))), (h4, .inl (cZ, 8, .inl f14))] := hD
  generalize (upd f13 7 0) = f15 at hP hD
  refine lv_aload_n hx hb dX7_clear_15 rfl (lv_at hl 1 rfl) ?_
  refine va_get (D := D) (ci := 8) (v := .ref h4) (C := RX7) (T := TX7) (N := 5) hx hb hts im_X7_clear_X7 hown hE.1 hP 0 rfl rfl 3 (by decide) (hts (.fieldLink RX7 23 "RiverBridges$Timetable" "isTold" "[Z") (by decide +kernel)) (fun _ h9 => h9) rfl dX7_clear_16 ?_
  refine lv_iload_n hx hb dX7_clear_19 rfl (lv_at hl 0 rfl) ?_
  refine lv_iconst (v := 0) hx hb dX7_clear_20 (by decide) ?_
  refine lx_zast (g := upd f14 7 (vp_nar .boolean 0)) hx hb hE.1 hP hD hS 2 1 rfl rfl (by unfold vp_in; decide) (rfl) dX7_clear_21 (fun H locs hP hD hS => ?_)
  have hP : va_P D vwCl [(h0, .inr (8, [.ref h1, .ref h2, .ref h3, .ref h4, .int b])), (h3, .inl (cI, 8, .inl f15)), (h4, .inl (cZ, 8, .inl (upd f14 7 (vp_nar .boolean 0))))] H := hP
  have hD : va_D A [(h0, .inr (8, [.ref h1, .ref h2, .ref h3, .ref h4, .int b])), (h3, .inl (cI, 8, .inl f15)), (h4, .inl (cZ, 8, .inl (upd f14 7 (vp_nar .boolean 0))))] := hD
  generalize (upd f14 7 (vp_nar .boolean 0)) = f16 at hP hD
  refine lv_iinc (v := 8) (lv' := [(1, .int 8), (0, .ref h0)]) hx hb dX7_clear_22 hl (k := 0) rfl (by decide) (by decide) rfl (fun ls hl => ?_)
  refine lv_goto (tgt := 2) hx hb dX7_clear_25 (by decide) ?_
  refine lv_iload_n hx hb dX7_clear_2 rfl (lv_at hl 0 rfl) ?_
  refine lv_bipush (v := 8) hx hb dX7_clear_3 (by decide) ?_
  refine lv_icmp_ge (tgt := 28) hx hb dX7_clear_5 (by decide) (fun _ => ?_) (fun c9 => absurd (by decide) c9)
  refine lv_aload_n hx hb dX7_clear_28 rfl (lv_at hl 1 rfl) ?_
  refine lv_iconst (v := 0) hx hb dX7_clear_29 (by decide) ?_
  refine va_put (D := D) (ci := 8) (v := .int 0) (ty := .int) (C := RX7) (T := TX7) (N := 5) hx hb hts im_X7_clear_X7 tyX7 tyX7_ok nmX7 hown hE.1 hP hD hS 0 rfl rfl 4 (by decide) (hts (.fieldLink RX7 27 "RiverBridges$Timetable" "bridgesTold" "I") (by decide +kernel)) (fun _ h9 => h9) rfl (by decide +kernel) rfl rfl (Nat.le_of_ble_eq_true rfl) dX7_clear_30 (fun H locs hP hD hS => ?_)
  have hP : va_P D vwCl [(h0, .inr (8, [.ref h1, .ref h2, .ref h3, .ref h4, .int 0])), (h3, .inl (cI, 8, .inl f15)), (h4, .inl (cZ, 8, .inl f16))] H := hP
  have hD : va_D A [(h0, .inr (8, [.ref h1, .ref h2, .ref h3, .ref h4, .int 0])), (h3, .inl (cI, 8, .inl f15)), (h4, .inl (cZ, 8, .inl f16))] := hD
  have hP9 := hP.sub (ws' := [(h0, .inr (8, [.ref h1, .ref h2, .ref h3, .ref h4, .int 0])), (h3, .inl (cI, 8, .inl f15)), (h4, .inl (cZ, 8, .inl f16))]) [0, 1, 2] rfl
  have hD9 := hD.sub (ws' := [(h0, .inr (8, [.ref h1, .ref h2, .ref h3, .ref h4, .int 0])), (h3, .inl (cI, 8, .inl f15)), (h4, .inl (cZ, 8, .inl f16))]) [0, 1, 2] (by decide) rfl
  exact ss_vret (f15, f16) hx hb hr hlocks hP9 hD9 hS (trivial) (Nat.le_of_ble_eq_true rfl) (Nat.le_of_ble_eq_true rfl) dX7_clear_33

theorem im_X2_init_X2 : ∀ w ∈ wsX20, w ∈ wsX2_init := fun _ h => List.mem_cons_of_mem _ (List.mem_append_right _ h)
theorem im_X2_init_X5 : ∀ w ∈ wsX50, w ∈ wsX2_init := fun _ h => List.mem_cons_of_mem _ (List.mem_append_left _ (List.mem_append_right _ h))
set_option maxHeartbeats 400000 in
set_option maxRecDepth 100000 in
theorem c_Reader_init (l : Launch) (D : va_G) (cI cZ cB cO cJ : ClassId) (a0 : Nat) (sz : Nat) (h0 : Nat)  : Met l yX2_init wsX2_init ({ frames := 2, cells := 2, slots := 442, locals := 32 }) (Pcs D cI cZ cB cO cJ a0 [.ref h0] [(h0, .inr (3, [.null, .int 0, .int 0, .int 0, .int 0, .int 0, .int 0, .int 0, .int 0, .int 0]))] sz) (va_Qv (fun (u : Nat × Nat) => True) (fun (u : Nat × Nat) t => va_P D vwCl [(h0, .inr (3, [.ref u.1, .int 0, .int 0, .int 0, .int 0, .int 1, .int 0, .int 0, .int 0, .int 0])), (u.1, .inr (6, [.ref u.2, .int 0])), (u.2, .inl (cI, 440, .inl (fun _ => 0)))] t.heap ∧ va_D (va_A [(h0, .inr (3, [.null, .int 0, .int 0, .int 0, .int 0, .int 0, .int 0, .int 0, .int 0, .int 0]))] sz) [(h0, .inr (3, [.ref u.1, .int 0, .int 0, .int 0, .int 0, .int 1, .int 0, .int 0, .int 0, .int 0])), (u.1, .inr (6, [.ref u.2, .int 0])), (u.2, .inl (cI, 440, .inl (fun _ => 0)))]) (va_A [(h0, .inr (3, [.null, .int 0, .int 0, .int 0, .int 0, .int 0, .int 0, .int 0, .int 0, .int 0]))] sz)) 2 442 (va_A [(h0, .inr (3, [.null, .int 0, .int 0, .int 0, .int 0, .int 0, .int 0, .int 0, .int 0, .int 0]))] sz) := by
  refine Met.ofW (cc := cX2_init) (maxL := 1) (ret := none) (by decide) rfl ?_
  intro p e s m args below meth c s₁ B hml hv
  obtain ⟨rfl, hsz, hP, hE, hD0, hZ⟩ := hv
  have hx := B.exec
  have hb := B.bytes
  have hr := B.returns
  have hts := atoms_spec (ws := wsX2_init) B.pre
  have hown : s.vm.findClass RX2 = some m.cls := findClass_of_methodNamed B.named
  have hlocks := B.notSynchronized
  have hin := (name_of_methodNamed B.named B.method).1
  subst hsz
  have hD := hD0.self (sz := s.heap.size)
  generalize hAe : va_A [(h0, .inr (3, [.null, .int 0, .int 0, .int 0, .int 0, .int 0, .int 0, .int 0, .int 0, .int 0]))] s.heap.size = A at hD hZ ⊢
  have hA : ∀ q : Nat, s.heap.size ≤ q → A q := fun q h => by rw [← hAe]; exact Or.inr h
  have hS : va_S A s.heap s.heap [] := va_S.rf
  have hP : va_P D vwCl [(h0, .inr (3, [.null, .int 0, .int 0, .int 0, .int 0, .int 0, .int 0, .int 0, .int 0, .int 0]))] s.heap := hP
  have hl := lv_entry ([.ref h0]) (n := 1) (Nat.le_of_ble_eq_true rfl)
  rw [lg_entry_eq]
  generalize (lg_sl ([.ref h0]) ++ List.replicate (1 - (lg_sl ([.ref h0])).length) Slot.unset).toArray = ls at hl ⊢
  have hl : lv_has ls 1 [(0, .ref h0)] := hl
  refine lv_aload_n hx hb dX2_init_0 rfl (lv_at hl 0 rfl) ?_
  refine W.objInit hx hb hown (hts (.methodLink RX2 3 objectInit) (by decide +kernel)) (hts (.instanceMethod objectInit) (by decide +kernel)) (hts (.code objectInit ⟨#[0xb1]⟩ 1 none) (by decide +kernel)) rfl (by rw [hml]; exact hl.1) rfl dX2_init_1 (Nat.le_of_ble_eq_true rfl) (Nat.le_of_ble_eq_true rfl) ?_
  refine W.eq (g2 := F0 m 4 ls []) rfl ?_
  refine lv_aload_n hx hb dX2_init_4 rfl (lv_at hl 0 rfl) ?_
  refine va_new (ci := 6) (fs := [.null, .int 0]) (C := RX5) (T := TX5) (N := 2) hx hb hts im_X2_init_X5 tyX5 tyX5_ok hown (hts (.classLink RX2 9 RX5) (by decide +kernel)) (hts (.instantiable RX5 2) (by decide +kernel)) (hts (.initialized RX5) (by decide +kernel)) hE.1 hP hD hS hA rfl (fun j hj => by rcases (show j = 0 ∨ j = 1 by omega) with rfl | rfl <;> rfl) (Nat.le_of_ble_eq_true rfl) (Nat.le_of_ble_eq_true rfl) dX2_init_5 (fun q1 H hP hD hS => ?_)
  have hP : va_P D vwCl [(h0, .inr (3, [.null, .int 0, .int 0, .int 0, .int 0, .int 0, .int 0, .int 0, .int 0, .int 0])), (q1, .inr (6, [.null, .int 0]))] H := hP
  have hD : va_D A [(h0, .inr (3, [.null, .int 0, .int 0, .int 0, .int 0, .int 0, .int 0, .int 0, .int 0, .int 0])), (q1, .inr (6, [.null, .int 0]))] := hD
  refine lv_dup hx hb dX2_init_8 rfl ?_
  refine ss_callv (ws := [(h0, .inr (3, [.null, .int 0, .int 0, .int 0, .int 0, .int 0, .int 0, .int 0, .int 0, .int 0])), (q1, .inr (6, [.null, .int 0]))]) (wc := [(q1, .inr (6, [.null, .int 0]))]) (wr := [(h0, .inr (3, [.null, .int 0, .int 0, .int 0, .int 0, .int 0, .int 0, .int 0, .int 0, .int 0]))]) [1] [0] (va_runIN (rm := { frames := 1, cells := 1, slots := 440, locals := 12 }) (mc := 1) (ms := 440) (As := []) (rest := [.ref q1, .ref h0]) ⟨hx, hb, hml, hown, hts⟩ (c_Tape_init l D cI cZ cB cO cJ a0 H.size q1) ⟨va_cnB 0 hts gX2_init_X5_init_n11 rfl rfl rfl hE.2.2.2.2.1 (hts (.initialized RX5) (by decide +kernel)) (by decide +kernel) ⟨Nat.le_of_ble_eq_true rfl, Nat.le_of_ble_eq_true rfl⟩, rfl, (hts (.instanceMethod yX5_init) (by decide +kernel))⟩ (preS_std (wc := [(q1, .inr (6, [.null, .int 0]))]) [1] hE hZ hA hS hP hD rfl (by decide)) rfl rfl hl.1 rfl (lv_room (Nat.le_of_ble_eq_true rfl)) dX2_init_9 ⟨Nat.le_of_ble_eq_true rfl, Nat.le_of_ble_eq_true rfl⟩) hP hD hS hA rfl rfl (by decide) (by decide) (fun u H locs hw hP hD hS => ?_)
  obtain ⟨by1, rfl⟩ : ∃ z, z = u := ⟨_, rfl⟩
  try dsimp only at hw
  have hP : va_P D vwCl [(h0, .inr (3, [.null, .int 0, .int 0, .int 0, .int 0, .int 0, .int 0, .int 0, .int 0, .int 0])), (q1, .inr (6, [.ref by1, .int 0])), (by1, .inl (cI, 440, .inl (fun _ => 0)))] H := hP
  have hD : va_D A [(h0, .inr (3, [.null, .int 0, .int 0, .int 0, .int 0, .int 0, .int 0, .int 0, .int 0, .int 0])), (q1, .inr (6, [.ref by1, .int 0])), (by1, .inl (cI, 440, .inl (fun _ => 0)))] := hD
  refine va_putF (D := D) (ci := 3) (v := .ref q1) (ty := .object "RiverBridges$Tape") (C := RX2) (T := TX2) (N := 10) hx hb hts im_X2_init_X2 tyX2 tyX2_ok nmX2 hown hE.1 hP hD hS 0 rfl rfl 0 (by decide) (hts (.fieldLink RX2 12 "RiverBridges$Reader" "tape" "LRiverBridges$Tape;") (by decide +kernel)) (fun _ h9 => h9) rfl hin rfl (by decide +kernel) rfl rfl (Nat.le_of_ble_eq_true rfl) dX2_init_12 (fun H locs hP hD hS => ?_)
  have hP : va_P D vwCl [(h0, .inr (3, [.ref q1, .int 0, .int 0, .int 0, .int 0, .int 0, .int 0, .int 0, .int 0, .int 0])), (q1, .inr (6, [.ref by1, .int 0])), (by1, .inl (cI, 440, .inl (fun _ => 0)))] H := hP
  have hD : va_D A [(h0, .inr (3, [.ref q1, .int 0, .int 0, .int 0, .int 0, .int 0, .int 0, .int 0, .int 0, .int 0])), (q1, .inr (6, [.ref by1, .int 0])), (by1, .inl (cI, 440, .inl (fun _ => 0)))] := hD
  refine lv_aload_n hx hb dX2_init_15 rfl (lv_at hl 0 rfl) ?_
  refine lv_iconst (v := 0) hx hb dX2_init_16 (by decide) ?_
  refine va_put (D := D) (ci := 3) (v := .int 0) (ty := .int) (C := RX2) (T := TX2) (N := 10) hx hb hts im_X2_init_X2 tyX2 tyX2_ok nmX2 hown hE.1 hP hD hS 0 rfl rfl 1 (by decide) (hts (.fieldLink RX2 18 "RiverBridges$Reader" "due" "I") (by decide +kernel)) (fun _ h9 => h9) rfl (by decide +kernel) rfl rfl (Nat.le_of_ble_eq_true rfl) dX2_init_17 (fun H locs hP hD hS => ?_)
  have hP : va_P D vwCl [(h0, .inr (3, [.ref q1, .int 0, .int 0, .int 0, .int 0, .int 0, .int 0, .int 0, .int 0, .int 0])), (q1, .inr (6, [.ref by1, .int 0])), (by1, .inl (cI, 440, .inl (fun _ => 0)))] H := hP
  have hD : va_D A [(h0, .inr (3, [.ref q1, .int 0, .int 0, .int 0, .int 0, .int 0, .int 0, .int 0, .int 0, .int 0])), (q1, .inr (6, [.ref by1, .int 0])), (by1, .inl (cI, 440, .inl (fun _ => 0)))] := hD
  refine lv_aload_n hx hb dX2_init_20 rfl (lv_at hl 0 rfl) ?_
  refine lv_iconst (v := 0) hx hb dX2_init_21 (by decide) ?_
  refine va_put (D := D) (ci := 3) (v := .int 0) (ty := .int) (C := RX2) (T := TX2) (N := 10) hx hb hts im_X2_init_X2 tyX2 tyX2_ok nmX2 hown hE.1 hP hD hS 0 rfl rfl 2 (by decide) (hts (.fieldLink RX2 22 "RiverBridges$Reader" "bridgeTold" "I") (by decide +kernel)) (fun _ h9 => h9) rfl (by decide +kernel) rfl rfl (Nat.le_of_ble_eq_true rfl) dX2_init_22 (fun H locs hP hD hS => ?_)
  have hP : va_P D vwCl [(h0, .inr (3, [.ref q1, .int 0, .int 0, .int 0, .int 0, .int 0, .int 0, .int 0, .int 0, .int 0])), (q1, .inr (6, [.ref by1, .int 0])), (by1, .inl (cI, 440, .inl (fun _ => 0)))] H := hP
  have hD : va_D A [(h0, .inr (3, [.ref q1, .int 0, .int 0, .int 0, .int 0, .int 0, .int 0, .int 0, .int 0, .int 0])), (q1, .inr (6, [.ref by1, .int 0])), (by1, .inl (cI, 440, .inl (fun _ => 0)))] := hD
  refine lv_aload_n hx hb dX2_init_25 rfl (lv_at hl 0 rfl) ?_
  refine lv_iconst (v := 0) hx hb dX2_init_26 (by decide) ?_
  refine va_put (D := D) (ci := 3) (v := .int 0) (ty := .int) (C := RX2) (T := TX2) (N := 10) hx hb hts im_X2_init_X2 tyX2 tyX2_ok nmX2 hown hE.1 hP hD hS 0 rfl rfl 3 (by decide) (hts (.fieldLink RX2 25 "RiverBridges$Reader" "barFrom" "I") (by decide +kernel)) (fun _ h9 => h9) rfl (by decide +kernel) rfl rfl (Nat.le_of_ble_eq_true rfl) dX2_init_27 (fun H locs hP hD hS => ?_)
  have hP : va_P D vwCl [(h0, .inr (3, [.ref q1, .int 0, .int 0, .int 0, .int 0, .int 0, .int 0, .int 0, .int 0, .int 0])), (q1, .inr (6, [.ref by1, .int 0])), (by1, .inl (cI, 440, .inl (fun _ => 0)))] H := hP
  have hD : va_D A [(h0, .inr (3, [.ref q1, .int 0, .int 0, .int 0, .int 0, .int 0, .int 0, .int 0, .int 0, .int 0])), (q1, .inr (6, [.ref by1, .int 0])), (by1, .inl (cI, 440, .inl (fun _ => 0)))] := hD
  refine lv_aload_n hx hb dX2_init_30 rfl (lv_at hl 0 rfl) ?_
  refine lv_iconst (v := 0) hx hb dX2_init_31 (by decide) ?_
  refine va_put (D := D) (ci := 3) (v := .int 0) (ty := .int) (C := RX2) (T := TX2) (N := 10) hx hb hts im_X2_init_X2 tyX2 tyX2_ok nmX2 hown hE.1 hP hD hS 0 rfl rfl 4 (by decide) (hts (.fieldLink RX2 28 "RiverBridges$Reader" "place" "I") (by decide +kernel)) (fun _ h9 => h9) rfl (by decide +kernel) rfl rfl (Nat.le_of_ble_eq_true rfl) dX2_init_32 (fun H locs hP hD hS => ?_)
  have hP : va_P D vwCl [(h0, .inr (3, [.ref q1, .int 0, .int 0, .int 0, .int 0, .int 0, .int 0, .int 0, .int 0, .int 0])), (q1, .inr (6, [.ref by1, .int 0])), (by1, .inl (cI, 440, .inl (fun _ => 0)))] H := hP
  have hD : va_D A [(h0, .inr (3, [.ref q1, .int 0, .int 0, .int 0, .int 0, .int 0, .int 0, .int 0, .int 0, .int 0])), (q1, .inr (6, [.ref by1, .int 0])), (by1, .inl (cI, 440, .inl (fun _ => 0)))] := hD
  refine lv_aload_n hx hb dX2_init_35 rfl (lv_at hl 0 rfl) ?_
  refine lv_iconst (v := 1) hx hb dX2_init_36 (by decide) ?_
  refine va_put (D := D) (ci := 3) (v := .int 1) (ty := .int) (C := RX2) (T := TX2) (N := 10) hx hb hts im_X2_init_X2 tyX2 tyX2_ok nmX2 hown hE.1 hP hD hS 0 rfl rfl 5 (by decide) (hts (.fieldLink RX2 31 "RiverBridges$Reader" "token" "I") (by decide +kernel)) (fun _ h9 => h9) rfl (by decide +kernel) rfl rfl (Nat.le_of_ble_eq_true rfl) dX2_init_37 (fun H locs hP hD hS => ?_)
  have hP : va_P D vwCl [(h0, .inr (3, [.ref q1, .int 0, .int 0, .int 0, .int 0, .int 1, .int 0, .int 0, .int 0, .int 0])), (q1, .inr (6, [.ref by1, .int 0])), (by1, .inl (cI, 440, .inl (fun _ => 0)))] H := hP
  have hD : va_D A [(h0, .inr (3, [.ref q1, .int 0, .int 0, .int 0, .int 0, .int 1, .int 0, .int 0, .int 0, .int 0])), (q1, .inr (6, [.ref by1, .int 0])), (by1, .inl (cI, 440, .inl (fun _ => 0)))] := hD
  refine lv_aload_n hx hb dX2_init_40 rfl (lv_at hl 0 rfl) ?_
  refine lv_iconst (v := 0) hx hb dX2_init_41 (by decide) ?_
  refine va_put (D := D) (ci := 3) (v := .int 0) (ty := .int) (C := RX2) (T := TX2) (N := 10) hx hb hts im_X2_init_X2 tyX2 tyX2_ok nmX2 hown hE.1 hP hD hS 0 rfl rfl 6 (by decide) (hts (.fieldLink RX2 34 "RiverBridges$Reader" "start" "I") (by decide +kernel)) (fun _ h9 => h9) rfl (by decide +kernel) rfl rfl (Nat.le_of_ble_eq_true rfl) dX2_init_42 (fun H locs hP hD hS => ?_)
  have hP : va_P D vwCl [(h0, .inr (3, [.ref q1, .int 0, .int 0, .int 0, .int 0, .int 1, .int 0, .int 0, .int 0, .int 0])), (q1, .inr (6, [.ref by1, .int 0])), (by1, .inl (cI, 440, .inl (fun _ => 0)))] H := hP
  have hD : va_D A [(h0, .inr (3, [.ref q1, .int 0, .int 0, .int 0, .int 0, .int 1, .int 0, .int 0, .int 0, .int 0])), (q1, .inr (6, [.ref by1, .int 0])), (by1, .inl (cI, 440, .inl (fun _ => 0)))] := hD
  refine lv_aload_n hx hb dX2_init_45 rfl (lv_at hl 0 rfl) ?_
  refine lv_iconst (v := 0) hx hb dX2_init_46 (by decide) ?_
  refine va_put (D := D) (ci := 3) (v := .int 0) (ty := .int) (C := RX2) (T := TX2) (N := 10) hx hb hts im_X2_init_X2 tyX2 tyX2_ok nmX2 hown hE.1 hP hD hS 0 rfl rfl 7 (by decide) (hts (.fieldLink RX2 37 "RiverBridges$Reader" "value" "I") (by decide +kernel)) (fun _ h9 => h9) rfl (by decide +kernel) rfl rfl (Nat.le_of_ble_eq_true rfl) dX2_init_47 (fun H locs hP hD hS => ?_)
  have hP : va_P D vwCl [(h0, .inr (3, [.ref q1, .int 0, .int 0, .int 0, .int 0, .int 1, .int 0, .int 0, .int 0, .int 0])), (q1, .inr (6, [.ref by1, .int 0])), (by1, .inl (cI, 440, .inl (fun _ => 0)))] H := hP
  have hD : va_D A [(h0, .inr (3, [.ref q1, .int 0, .int 0, .int 0, .int 0, .int 1, .int 0, .int 0, .int 0, .int 0])), (q1, .inr (6, [.ref by1, .int 0])), (by1, .inl (cI, 440, .inl (fun _ => 0)))] := hD
  refine lv_aload_n hx hb dX2_init_50 rfl (lv_at hl 0 rfl) ?_
  refine lv_iconst (v := 0) hx hb dX2_init_51 (by decide) ?_
  refine va_put (D := D) (ci := 3) (v := .int 0) (ty := .int) (C := RX2) (T := TX2) (N := 10) hx hb hts im_X2_init_X2 tyX2 tyX2_ok nmX2 hown hE.1 hP hD hS 0 rfl rfl 8 (by decide) (hts (.fieldLink RX2 40 "RiverBridges$Reader" "faultKind" "I") (by decide +kernel)) (fun _ h9 => h9) rfl (by decide +kernel) rfl rfl (Nat.le_of_ble_eq_true rfl) dX2_init_52 (fun H locs hP hD hS => ?_)
  have hP : va_P D vwCl [(h0, .inr (3, [.ref q1, .int 0, .int 0, .int 0, .int 0, .int 1, .int 0, .int 0, .int 0, .int 0])), (q1, .inr (6, [.ref by1, .int 0])), (by1, .inl (cI, 440, .inl (fun _ => 0)))] H := hP
  have hD : va_D A [(h0, .inr (3, [.ref q1, .int 0, .int 0, .int 0, .int 0, .int 1, .int 0, .int 0, .int 0, .int 0])), (q1, .inr (6, [.ref by1, .int 0])), (by1, .inl (cI, 440, .inl (fun _ => 0)))] := hD
  refine lv_aload_n hx hb dX2_init_55 rfl (lv_at hl 0 rfl) ?_
  refine lv_iconst (v := 0) hx hb dX2_init_56 (by decide) ?_
  refine va_put (D := D) (ci := 3) (v := .int 0) (ty := .int) (C := RX2) (T := TX2) (N := 10) hx hb hts im_X2_init_X2 tyX2 tyX2_ok nmX2 hown hE.1 hP hD hS 0 rfl rfl 9 (by decide) (hts (.fieldLink RX2 43 "RiverBridges$Reader" "faultPlace" "I") (by decide +kernel)) (fun _ h9 => h9) rfl (by decide +kernel) rfl rfl (Nat.le_of_ble_eq_true rfl) dX2_init_57 (fun H locs hP hD hS => ?_)
  have hP : va_P D vwCl [(h0, .inr (3, [.ref q1, .int 0, .int 0, .int 0, .int 0, .int 1, .int 0, .int 0, .int 0, .int 0])), (q1, .inr (6, [.ref by1, .int 0])), (by1, .inl (cI, 440, .inl (fun _ => 0)))] H := hP
  have hD : va_D A [(h0, .inr (3, [.ref q1, .int 0, .int 0, .int 0, .int 0, .int 1, .int 0, .int 0, .int 0, .int 0])), (q1, .inr (6, [.ref by1, .int 0])), (by1, .inl (cI, 440, .inl (fun _ => 0)))] := hD
  have hP9 := hP.sub (ws' := [(h0, .inr (3, [.ref q1, .int 0, .int 0, .int 0, .int 0, .int 1, .int 0, .int 0, .int 0, .int 0])), (q1, .inr (6, [.ref by1, .int 0])), (by1, .inl (cI, 440, .inl (fun _ => 0)))]) [0, 1, 2] rfl
  have hD9 := hD.sub (ws' := [(h0, .inr (3, [.ref q1, .int 0, .int 0, .int 0, .int 0, .int 1, .int 0, .int 0, .int 0, .int 0])), (q1, .inr (6, [.ref by1, .int 0])), (by1, .inl (cI, 440, .inl (fun _ => 0)))]) [0, 1, 2] (by decide) rfl
  exact ss_vret (q1, by1) hx hb hr hlocks hP9 hD9 hS (trivial) (Nat.le_of_ble_eq_true rfl) (Nat.le_of_ble_eq_true rfl) dX2_init_60

set_option maxHeartbeats 400000 in
set_option maxRecDepth 100000 in
theorem c_AC_init (l : Launch) (D : va_G) (cI cZ cB cO cJ : ClassId) (a0 : Nat) (sz : Nat) (h0 : Nat) (x y : Int32)  : Met l yJxa1e45_init_da8c8 wsJxa1e45_init_da8c8 ({ frames := 1, cells := 0, slots := 0, locals := 12 }) (Pcs D cI cZ cB cO cJ a0 [.ref h0] [(h0, .inr (0, [.int x, .null, .int y]))] sz) (va_Qv (fun (u : Unit) => True) (fun (u : Unit) t => va_P D vwCl [(h0, .inr (0, [.int x, .null, .int y]))] t.heap ∧ va_D (va_A [(h0, .inr (0, [.int x, .null, .int y]))] sz) [(h0, .inr (0, [.int x, .null, .int y]))]) (va_A [(h0, .inr (0, [.int x, .null, .int y]))] sz)) 0 0 (va_A [(h0, .inr (0, [.int x, .null, .int y]))] sz) := by
  refine Met.ofW (cc := cJxa1e45_init_da8c8) (maxL := 1) (ret := none) (by decide) rfl ?_
  intro p e s m args below meth c s₁ B hml hv
  obtain ⟨rfl, hsz, hP, hE, hD0, hZ⟩ := hv
  have hx := B.exec
  have hb := B.bytes
  have hr := B.returns
  have hts := atoms_spec (ws := wsJxa1e45_init_da8c8) B.pre
  have hown : s.vm.findClass RJxa1e45 = some m.cls := findClass_of_methodNamed B.named
  have hlocks := B.notSynchronized
  have hin := (name_of_methodNamed B.named B.method).1
  subst hsz
  have hD := hD0.self (sz := s.heap.size)
  generalize hAe : va_A [(h0, .inr (0, [.int x, .null, .int y]))] s.heap.size = A at hD hZ ⊢
  have hA : ∀ q : Nat, s.heap.size ≤ q → A q := fun q h => by rw [← hAe]; exact Or.inr h
  have hS : va_S A s.heap s.heap [] := va_S.rf
  have hP : va_P D vwCl [(h0, .inr (0, [.int x, .null, .int y]))] s.heap := hP
  have hl := lv_entry ([.ref h0]) (n := 1) (Nat.le_of_ble_eq_true rfl)
  rw [lg_entry_eq]
  generalize (lg_sl ([.ref h0]) ++ List.replicate (1 - (lg_sl ([.ref h0])).length) Slot.unset).toArray = ls at hl ⊢
  have hl : lv_has ls 1 [(0, .ref h0)] := hl
  refine lv_aload_n hx hb dJxa1e45_init_da8c8_0 rfl (lv_at hl 0 rfl) ?_
  refine W.objInit hx hb hown (hts (.methodLink RJxa1e45 1 objectInit) (by decide +kernel)) (hts (.instanceMethod objectInit) (by decide +kernel)) (hts (.code objectInit ⟨#[0xb1]⟩ 1 none) (by decide +kernel)) rfl (by rw [hml]; exact hl.1) rfl dJxa1e45_init_da8c8_1 (Nat.le_of_ble_eq_true rfl) (Nat.le_of_ble_eq_true rfl) ?_
  refine W.eq (g2 := F0 m 4 ls []) rfl ?_
  have hP9 := hP.sub (ws' := [(h0, .inr (0, [.int x, .null, .int y]))]) [0] rfl
  have hD9 := hD.sub (ws' := [(h0, .inr (0, [.int x, .null, .int y]))]) [0] (by decide) rfl
  exact ss_vret () hx hb hr hlocks hP9 hD9 hS (trivial) (Nat.le_of_ble_eq_true rfl) (Nat.le_of_ble_eq_true rfl) dJxa1e45_init_da8c8_4

theorem im_Jxc12de_init_da8c8_Jx4a65c : ∀ w ∈ wsJx4a65c0, w ∈ wsJxc12de_init_da8c8 := fun _ h => List.mem_cons_of_mem _ (List.mem_append_right _ h)
set_option maxHeartbeats 400000 in
set_option maxRecDepth 100000 in
theorem c_ALi_init (l : Launch) (D : va_G) (cI cZ cB cO cJ : ClassId) (a0 : Nat) (sz : Nat) (h0 : Nat) (x y : Int32)  : Met l yJxc12de_init_da8c8 wsJxc12de_init_da8c8 ({ frames := 2, cells := 0, slots := 0, locals := 32 }) (Pcs D cI cZ cB cO cJ a0 [.ref h0] [(h0, .inr (0, [.int x, .null, .int y]))] sz) (va_Qv (fun (u : Unit) => True) (fun (u : Unit) t => va_P D vwCl [(h0, .inr (0, [.int 0, .null, .int y]))] t.heap ∧ va_D (va_A [(h0, .inr (0, [.int x, .null, .int y]))] sz) [(h0, .inr (0, [.int 0, .null, .int y]))]) (va_A [(h0, .inr (0, [.int x, .null, .int y]))] sz)) 0 0 (va_A [(h0, .inr (0, [.int x, .null, .int y]))] sz) := by
  refine Met.ofW (cc := cJxc12de_init_da8c8) (maxL := 1) (ret := none) (by decide) rfl ?_
  intro p e s m args below meth c s₁ B hml hv
  obtain ⟨rfl, hsz, hP, hE, hD0, hZ⟩ := hv
  have hx := B.exec
  have hb := B.bytes
  have hr := B.returns
  have hts := atoms_spec (ws := wsJxc12de_init_da8c8) B.pre
  have hown : s.vm.findClass RJxc12de = some m.cls := findClass_of_methodNamed B.named
  have hlocks := B.notSynchronized
  have hin := (name_of_methodNamed B.named B.method).1
  subst hsz
  have hD := hD0.self (sz := s.heap.size)
  generalize hAe : va_A [(h0, .inr (0, [.int x, .null, .int y]))] s.heap.size = A at hD hZ ⊢
  have hA : ∀ q : Nat, s.heap.size ≤ q → A q := fun q h => by rw [← hAe]; exact Or.inr h
  have hS : va_S A s.heap s.heap [] := va_S.rf
  have hP : va_P D vwCl [(h0, .inr (0, [.int x, .null, .int y]))] s.heap := hP
  have hl := lv_entry ([.ref h0]) (n := 1) (Nat.le_of_ble_eq_true rfl)
  rw [lg_entry_eq]
  generalize (lg_sl ([.ref h0]) ++ List.replicate (1 - (lg_sl ([.ref h0])).length) Slot.unset).toArray = ls at hl ⊢
  have hl : lv_has ls 1 [(0, .ref h0)] := hl
  refine lv_aload_n hx hb dJxc12de_init_da8c8_0 rfl (lv_at hl 0 rfl) ?_
  refine ss_callv (ws := [(h0, .inr (0, [.int x, .null, .int y]))]) (wc := [(h0, .inr (0, [.int x, .null, .int y]))]) (wr := []) [0] [] (va_runI (As := []) (rest := []) ⟨hx, hb, hml, hown, hts⟩ (c_AC_init l D cI cZ cB cO cJ a0 s.heap.size h0 x y) (cwI 0 hts gJxc12de_init_da8c8_Jxa1e45_init_da8c8 rfl rfl rfl (hts (.initialized RJxa1e45) (by decide +kernel)) (hts (.methodLink RJxc12de 1 yJxa1e45_init_da8c8) (by decide +kernel)) (hts (.instanceMethod yJxa1e45_init_da8c8) (by decide +kernel)) rfl (by decide +kernel) ⟨Nat.le_of_ble_eq_true rfl, Nat.le_of_ble_eq_true rfl⟩) (preS_std (wc := [(h0, .inr (0, [.int x, .null, .int y]))]) [0] hE hZ hA hS hP hD rfl (by decide)) rfl rfl hl.1 rfl (lv_room (Nat.le_of_ble_eq_true rfl)) dJxc12de_init_da8c8_1 ⟨Nat.le_of_ble_eq_true rfl, Nat.le_of_ble_eq_true rfl⟩) hP hD hS hA rfl rfl (by decide) (by decide) (fun u H locs hw hP hD hS => ?_)
  try dsimp only at hw
  have hP : va_P D vwCl [(h0, .inr (0, [.int x, .null, .int y]))] H := hP
  have hD : va_D A [(h0, .inr (0, [.int x, .null, .int y]))] := hD
  refine lv_aload_n hx hb dJxc12de_init_da8c8_4 rfl (lv_at hl 0 rfl) ?_
  refine lv_iconst (v := 0) hx hb dJxc12de_init_da8c8_5 (by decide) ?_
  refine va_put (D := D) (ci := 0) (v := .int 0) (ty := .int) (C := RJx4a65c) (T := TJx4a65c) (N := 3) hx hb hts im_Jxc12de_init_da8c8_Jx4a65c tyJx4a65c tyJx4a65c_ok nmJx4a65c hown hE.1 hP hD hS 0 rfl rfl 0 (by decide) (hts (.fieldLink RJxc12de 7 "java/util/AbstractList" "modCount" "I") (by decide +kernel)) (fun _ h9 => h9) rfl (by decide +kernel) rfl rfl (Nat.le_of_ble_eq_true rfl) dJxc12de_init_da8c8_6 (fun H locs hP hD hS => ?_)
  have hP : va_P D vwCl [(h0, .inr (0, [.int 0, .null, .int y]))] H := hP
  have hD : va_D A [(h0, .inr (0, [.int 0, .null, .int y]))] := hD
  have hP9 := hP.sub (ws' := [(h0, .inr (0, [.int 0, .null, .int y]))]) [0] rfl
  have hD9 := hD.sub (ws' := [(h0, .inr (0, [.int 0, .null, .int y]))]) [0] (by decide) rfl
  exact ss_vret () hx hb hr hlocks hP9 hD9 hS (trivial) (Nat.le_of_ble_eq_true rfl) (Nat.le_of_ble_eq_true rfl) dJxc12de_init_da8c8_9

theorem im_Jx4a65c_init_da8c8_Jx4a65c : ∀ w ∈ wsJx4a65c0, w ∈ wsJx4a65c_init_da8c8 := fun _ h => List.mem_cons_of_mem _ (List.mem_append_right _ h)
set_option maxHeartbeats 400000 in
set_option maxRecDepth 100000 in
theorem c_AL_init (l : Launch) (D : va_G) (cI cZ cB cO cJ : ClassId) (a0 : Nat) (sz : Nat) (h0 : Nat)  : Met l yJx4a65c_init_da8c8 wsJx4a65c_init_da8c8 ({ frames := 3, cells := 0, slots := 0, locals := 52 }) (Pcs D cI cZ cB cO cJ a0 [.ref h0] [(h0, .inr (0, [.int 0, .null, .int 0]))] sz) (va_Qv (fun (u : Unit) => True) (fun (u : Unit) t => va_P D vwCl [(h0, .inr (0, [.int 0, .ref a0, .int 0]))] t.heap ∧ va_D (va_A [(h0, .inr (0, [.int 0, .null, .int 0]))] sz) [(h0, .inr (0, [.int 0, .ref a0, .int 0]))]) (va_A [(h0, .inr (0, [.int 0, .null, .int 0]))] sz)) 0 0 (va_A [(h0, .inr (0, [.int 0, .null, .int 0]))] sz) := by
  refine Met.ofW (cc := cJx4a65c_init_da8c8) (maxL := 1) (ret := none) (by decide) rfl ?_
  intro p e s m args below meth c s₁ B hml hv
  obtain ⟨rfl, hsz, hP, hE, hD0, hZ⟩ := hv
  have hx := B.exec
  have hb := B.bytes
  have hr := B.returns
  have hts := atoms_spec (ws := wsJx4a65c_init_da8c8) B.pre
  have hown : s.vm.findClass RJx4a65c = some m.cls := findClass_of_methodNamed B.named
  have hlocks := B.notSynchronized
  have hin := (name_of_methodNamed B.named B.method).1
  subst hsz
  have hD := hD0.self (sz := s.heap.size)
  generalize hAe : va_A [(h0, .inr (0, [.int 0, .null, .int 0]))] s.heap.size = A at hD hZ ⊢
  have hA : ∀ q : Nat, s.heap.size ≤ q → A q := fun q h => by rw [← hAe]; exact Or.inr h
  have hS : va_S A s.heap s.heap [] := va_S.rf
  have hP : va_P D vwCl [(h0, .inr (0, [.int 0, .null, .int 0]))] s.heap := hP
  have hl := lv_entry ([.ref h0]) (n := 1) (Nat.le_of_ble_eq_true rfl)
  rw [lg_entry_eq]
  generalize (lg_sl ([.ref h0]) ++ List.replicate (1 - (lg_sl ([.ref h0])).length) Slot.unset).toArray = ls at hl ⊢
  have hl : lv_has ls 1 [(0, .ref h0)] := hl
  refine lv_aload_n hx hb dJx4a65c_init_da8c8_0 rfl (lv_at hl 0 rfl) ?_
  refine ss_callv (ws := [(h0, .inr (0, [.int 0, .null, .int 0]))]) (wc := [(h0, .inr (0, [.int 0, .null, .int 0]))]) (wr := []) [0] [] (va_runI (As := []) (rest := []) ⟨hx, hb, hml, hown, hts⟩ (c_ALi_init l D cI cZ cB cO cJ a0 s.heap.size h0 0 0) (cwI 0 hts gJx4a65c_init_da8c8_Jxc12de_init_da8c8 rfl rfl rfl (hts (.initialized RJxc12de) (by decide +kernel)) (hts (.methodLink RJx4a65c 1 yJxc12de_init_da8c8) (by decide +kernel)) (hts (.instanceMethod yJxc12de_init_da8c8) (by decide +kernel)) rfl (by decide +kernel) ⟨Nat.le_of_ble_eq_true rfl, Nat.le_of_ble_eq_true rfl⟩) (preS_std (wc := [(h0, .inr (0, [.int 0, .null, .int 0]))]) [0] hE hZ hA hS hP hD rfl (by decide)) rfl rfl hl.1 rfl (lv_room (Nat.le_of_ble_eq_true rfl)) dJx4a65c_init_da8c8_1 ⟨Nat.le_of_ble_eq_true rfl, Nat.le_of_ble_eq_true rfl⟩) hP hD hS hA rfl rfl (by decide) (by decide) (fun u H locs hw hP hD hS => ?_)
  try dsimp only at hw
  have hP : va_P D vwCl [(h0, .inr (0, [.int 0, .null, .int 0]))] H := hP
  have hD : va_D A [(h0, .inr (0, [.int 0, .null, .int 0]))] := hD
  refine lv_aload_n hx hb dJx4a65c_init_da8c8_4 rfl (lv_at hl 0 rfl) ?_
  refine va_gets (v := .ref a0) hx hb hZ.1 hS hown (hts (.fieldLink RJx4a65c 39 "java/util/ArrayList" "DEFAULTCAPACITY_EMPTY_ELEMENTDATA" "[Ljava/lang/Object;") (by decide +kernel)) (fun _ h9 => h9) dJx4a65c_init_da8c8_5 ?_
  refine va_put (D := D) (ci := 0) (v := .ref a0) (ty := .array (.object "java/lang/Object")) (C := RJx4a65c) (T := TJx4a65c) (N := 3) hx hb hts im_Jx4a65c_init_da8c8_Jx4a65c tyJx4a65c tyJx4a65c_ok nmJx4a65c hown hE.1 hP hD hS 0 rfl rfl 1 (by decide) (hts (.fieldLink RJx4a65c 9 "java/util/ArrayList" "elementData" "[Ljava/lang/Object;") (by decide +kernel)) (fun _ h9 => h9) rfl (by decide +kernel) rfl rfl (Nat.le_of_ble_eq_true rfl) dJx4a65c_init_da8c8_8 (fun H locs hP hD hS => ?_)
  have hP : va_P D vwCl [(h0, .inr (0, [.int 0, .ref a0, .int 0]))] H := hP
  have hD : va_D A [(h0, .inr (0, [.int 0, .ref a0, .int 0]))] := hD
  have hP9 := hP.sub (ws' := [(h0, .inr (0, [.int 0, .ref a0, .int 0]))]) [0] rfl
  have hD9 := hD.sub (ws' := [(h0, .inr (0, [.int 0, .ref a0, .int 0]))]) [0] (by decide) rfl
  exact ss_vret () hx hb hr hlocks hP9 hD9 hS (trivial) (Nat.le_of_ble_eq_true rfl) (Nat.le_of_ble_eq_true rfl) dJx4a65c_init_da8c8_11

theorem im_Jx4a65c_size_8abf5_Jx4a65c : ∀ w ∈ wsJx4a65c0, w ∈ wsJx4a65c_size_8abf5 := fun _ h => List.mem_cons_of_mem _ (List.mem_append_right _ h)
set_option maxHeartbeats 400000 in
set_option maxRecDepth 100000 in
theorem c_AL_size (l : Launch) (D : va_G) (cI cZ cB cO cJ : ClassId) (a0 : Nat) (sz : Nat) (h0 h1 : Nat) (x n : Int32)  : Met l yJx4a65c_size_8abf5 wsJx4a65c_size_8abf5 ({ frames := 0, cells := 0, slots := 0, locals := 0 }) (Pcs D cI cZ cB cO cJ a0 [.ref h0] [(h0, .inr (0, [.int x, .ref h1, .int n]))] sz) (va_Qi (fun (r : Int32) (u : Unit) => r = n) (fun (u : Unit) t => va_P D vwCl [(h0, .inr (0, [.int x, .ref h1, .int n]))] t.heap ∧ va_D (va_A [(h0, .inr (0, [.int x, .ref h1, .int n]))] sz) [(h0, .inr (0, [.int x, .ref h1, .int n]))]) (va_A [(h0, .inr (0, [.int x, .ref h1, .int n]))] sz)) 0 0 (va_A [(h0, .inr (0, [.int x, .ref h1, .int n]))] sz) := by
  refine Met.ofW (cc := cJx4a65c_size_8abf5) (maxL := 1) (ret := (some .int)) (by decide) rfl ?_
  intro p e s m args below meth c s₁ B hml hv
  obtain ⟨rfl, hsz, hP, hE, hD0, hZ⟩ := hv
  have hx := B.exec
  have hb := B.bytes
  have hr := B.returns
  have hts := atoms_spec (ws := wsJx4a65c_size_8abf5) B.pre
  have hown : s.vm.findClass RJx4a65c = some m.cls := findClass_of_methodNamed B.named
  have hlocks := B.notSynchronized
  have hin := (name_of_methodNamed B.named B.method).1
  subst hsz
  have hD := hD0.self (sz := s.heap.size)
  generalize hAe : va_A [(h0, .inr (0, [.int x, .ref h1, .int n]))] s.heap.size = A at hD hZ ⊢
  have hA : ∀ q : Nat, s.heap.size ≤ q → A q := fun q h => by rw [← hAe]; exact Or.inr h
  have hS : va_S A s.heap s.heap [] := va_S.rf
  have hP : va_P D vwCl [(h0, .inr (0, [.int x, .ref h1, .int n]))] s.heap := hP
  have hl := lv_entry ([.ref h0]) (n := 1) (Nat.le_of_ble_eq_true rfl)
  rw [lg_entry_eq]
  generalize (lg_sl ([.ref h0]) ++ List.replicate (1 - (lg_sl ([.ref h0])).length) Slot.unset).toArray = ls at hl ⊢
  have hl : lv_has ls 1 [(0, .ref h0)] := hl
  refine lv_aload_n hx hb dJx4a65c_size_8abf5_0 rfl (lv_at hl 0 rfl) ?_
  refine va_get (D := D) (ci := 0) (v := .int n) (C := RJx4a65c) (T := TJx4a65c) (N := 3) hx hb hts im_Jx4a65c_size_8abf5_Jx4a65c hown hE.1 hP 0 rfl rfl 2 (by decide) (hts (.fieldLink RJx4a65c 48 "java/util/ArrayList" "size" "I") (by decide +kernel)) (fun _ h9 => h9) rfl dJx4a65c_size_8abf5_1 ?_
  have hP9 := hP.sub (ws' := [(h0, .inr (0, [.int x, .ref h1, .int n]))]) [0] rfl
  have hD9 := hD.sub (ws' := [(h0, .inr (0, [.int x, .ref h1, .int n]))]) [0] (by decide) rfl
  exact ss_iret () hx hb hr hlocks hP9 hD9 hS (rfl) (Nat.le_of_ble_eq_true rfl) (Nat.le_of_ble_eq_true rfl) dJx4a65c_size_8abf5_4

theorem im_Jx4a65c_isEmpty_aae02_Jx4a65c : ∀ w ∈ wsJx4a65c0, w ∈ wsJx4a65c_isEmpty_aae02 := fun _ h => List.mem_cons_of_mem _ (List.mem_append_right _ h)
set_option maxHeartbeats 400000 in
set_option maxRecDepth 100000 in
theorem c_AL_isEmpty (l : Launch) (D : va_G) (cI cZ cB cO cJ : ClassId) (a0 : Nat) (sz : Nat) (h0 h1 : Nat) (x : Int32)  : Met l yJx4a65c_isEmpty_aae02 wsJx4a65c_isEmpty_aae02 ({ frames := 0, cells := 0, slots := 0, locals := 0 }) (Pcs D cI cZ cB cO cJ a0 [.ref h0] [(h0, .inr (0, [.int x, .ref h1, .int 0]))] sz) (va_Qi (fun (r : Int32) (u : Unit) => r = 1) (fun (u : Unit) t => va_P D vwCl [(h0, .inr (0, [.int x, .ref h1, .int 0]))] t.heap ∧ va_D (va_A [(h0, .inr (0, [.int x, .ref h1, .int 0]))] sz) [(h0, .inr (0, [.int x, .ref h1, .int 0]))]) (va_A [(h0, .inr (0, [.int x, .ref h1, .int 0]))] sz)) 0 0 (va_A [(h0, .inr (0, [.int x, .ref h1, .int 0]))] sz) := by
  refine Met.ofW (cc := cJx4a65c_isEmpty_aae02) (maxL := 1) (ret := (some .boolean)) (by decide) rfl ?_
  intro p e s m args below meth c s₁ B hml hv
  obtain ⟨rfl, hsz, hP, hE, hD0, hZ⟩ := hv
  have hx := B.exec
  have hb := B.bytes
  have hr := B.returns
  have hts := atoms_spec (ws := wsJx4a65c_isEmpty_aae02) B.pre
  have hown : s.vm.findClass RJx4a65c = some m.cls := findClass_of_methodNamed B.named
  have hlocks := B.notSynchronized
  have hin := (name_of_methodNamed B.named B.method).1
  subst hsz
  have hD := hD0.self (sz := s.heap.size)
  generalize hAe : va_A [(h0, .inr (0, [.int x, .ref h1, .int 0]))] s.heap.size = A at hD hZ ⊢
  have hA : ∀ q : Nat, s.heap.size ≤ q → A q := fun q h => by rw [← hAe]; exact Or.inr h
  have hS : va_S A s.heap s.heap [] := va_S.rf
  have hP : va_P D vwCl [(h0, .inr (0, [.int x, .ref h1, .int 0]))] s.heap := hP
  have hl := lv_entry ([.ref h0]) (n := 1) (Nat.le_of_ble_eq_true rfl)
  rw [lg_entry_eq]
  generalize (lg_sl ([.ref h0]) ++ List.replicate (1 - (lg_sl ([.ref h0])).length) Slot.unset).toArray = ls at hl ⊢
  have hl : lv_has ls 1 [(0, .ref h0)] := hl
  refine lv_aload_n hx hb dJx4a65c_isEmpty_aae02_0 rfl (lv_at hl 0 rfl) ?_
  refine va_get (D := D) (ci := 0) (v := .int 0) (C := RJx4a65c) (T := TJx4a65c) (N := 3) hx hb hts im_Jx4a65c_isEmpty_aae02_Jx4a65c hown hE.1 hP 0 rfl rfl 2 (by decide) (hts (.fieldLink RJx4a65c 48 "java/util/ArrayList" "size" "I") (by decide +kernel)) (fun _ h9 => h9) rfl dJx4a65c_isEmpty_aae02_1 ?_
  refine lv_if_ne (tgt := 11) hx hb dJx4a65c_isEmpty_aae02_4 (by decide) (fun c9 => absurd (by decide) c9) (fun _ => ?_)
  refine lv_iconst (v := 1) hx hb dJx4a65c_isEmpty_aae02_7 (by decide) ?_
  refine lv_goto (tgt := 12) hx hb dJx4a65c_isEmpty_aae02_8 (by decide) ?_
  have hP9 := hP.sub (ws' := [(h0, .inr (0, [.int x, .ref h1, .int 0]))]) [0] rfl
  have hD9 := hD.sub (ws' := [(h0, .inr (0, [.int x, .ref h1, .int 0]))]) [0] (by decide) rfl
  exact ss_zret () hx hb hr hlocks (by decide) hP9 hD9 hS (rfl) (Nat.le_of_ble_eq_true rfl) (Nat.le_of_ble_eq_true rfl) dJx4a65c_isEmpty_aae02_12

theorem im_X3_init_Jx4a65c : ∀ w ∈ wsJx4a65c0, w ∈ wsX3_init := fun _ h => List.mem_cons_of_mem _ (List.mem_append_left _ (List.mem_append_right _ h))
theorem im_X3_init_X3 : ∀ w ∈ wsX30, w ∈ wsX3_init := fun _ h => List.mem_cons_of_mem _ (List.mem_append_left _ (List.mem_append_left _ (List.mem_append_right _ h)))
theorem im_X3_init_X6 : ∀ w ∈ wsX60, w ∈ wsX3_init := fun _ h => List.mem_cons_of_mem _ (List.mem_append_left _ (List.mem_append_left _ (List.mem_append_left _ (List.mem_append_right _ h))))
theorem im_X3_init_X7 : ∀ w ∈ wsX70, w ∈ wsX3_init := fun _ h => List.mem_cons_of_mem _ (List.mem_append_right _ h)
set_option maxHeartbeats 400000 in
set_option maxRecDepth 100000 in
theorem c_River_init (l : Launch) (D : va_G) (cI cZ cB cO cJ : ClassId) (a0 : Nat) (sz : Nat) (h0 : Nat)  : Met l yX3_init wsX3_init ({ frames := 4, cells := 26, slots := 264, locals := 72 }) (Pcs D cI cZ cB cO cJ a0 [.ref h0] [(h0, .inr (4, [.null, .null, .null, .null, .null, .int 0, .int 0]))] sz) (va_Qv (fun (u : Nat × Nat × Nat × Nat × Nat × Nat × Nat × Nat × Nat × Nat) => True) (fun (u : Nat × Nat × Nat × Nat × Nat × Nat × Nat × Nat × Nat × Nat) t => va_P D vwCl [(h0, .inr (4, [.ref u.1, .ref u.2.2.1, .ref u.2.2.2.1, .ref u.2.2.2.2.1, .ref u.2.2.2.2.2.1, .int 5, .int 0])), (u.1, .inr (7, [.ref u.2.1])), (u.2.1, .inl (cI, 25, .inl (fun _ => 0))), (u.2.2.1, .inr (0, [.int 0, .ref a0, .int 0])), (u.2.2.2.1, .inr (0, [.int 0, .ref a0, .int 0])), (u.2.2.2.2.1, .inr (0, [.int 0, .ref a0, .int 0])), (u.2.2.2.2.2.1, .inr (8, [.ref u.2.2.2.2.2.2.1, .ref u.2.2.2.2.2.2.2.1, .ref u.2.2.2.2.2.2.2.2.1, .ref u.2.2.2.2.2.2.2.2.2, .int 0])), (u.2.2.2.2.2.2.2.2.1, .inl (cI, 8, .inl (fun _ => 0))), (u.2.2.2.2.2.2.2.2.2, .inl (cZ, 8, .inl (fun _ => 0)))] t.heap ∧ va_D (va_A [(h0, .inr (4, [.null, .null, .null, .null, .null, .int 0, .int 0]))] sz) [(h0, .inr (4, [.ref u.1, .ref u.2.2.1, .ref u.2.2.2.1, .ref u.2.2.2.2.1, .ref u.2.2.2.2.2.1, .int 5, .int 0])), (u.1, .inr (7, [.ref u.2.1])), (u.2.1, .inl (cI, 25, .inl (fun _ => 0))), (u.2.2.1, .inr (0, [.int 0, .ref a0, .int 0])), (u.2.2.2.1, .inr (0, [.int 0, .ref a0, .int 0])), (u.2.2.2.2.1, .inr (0, [.int 0, .ref a0, .int 0])), (u.2.2.2.2.2.1, .inr (8, [.ref u.2.2.2.2.2.2.1, .ref u.2.2.2.2.2.2.2.1, .ref u.2.2.2.2.2.2.2.2.1, .ref u.2.2.2.2.2.2.2.2.2, .int 0])), (u.2.2.2.2.2.2.2.2.1, .inl (cI, 8, .inl (fun _ => 0))), (u.2.2.2.2.2.2.2.2.2, .inl (cZ, 8, .inl (fun _ => 0)))]) (va_A [(h0, .inr (4, [.null, .null, .null, .null, .null, .int 0, .int 0]))] sz)) 26 264 (va_A [(h0, .inr (4, [.null, .null, .null, .null, .null, .int 0, .int 0]))] sz) := by
  refine Met.ofW (cc := cX3_init) (maxL := 1) (ret := none) (by decide) rfl ?_
  intro p e s m args below meth c s₁ B hml hv
  obtain ⟨rfl, hsz, hP, hE, hD0, hZ⟩ := hv
  have hx := B.exec
  have hb := B.bytes
  have hr := B.returns
  have hts := atoms_spec (ws := wsX3_init) B.pre
  have hown : s.vm.findClass RX3 = some m.cls := findClass_of_methodNamed B.named
  have hlocks := B.notSynchronized
  have hin := (name_of_methodNamed B.named B.method).1
  subst hsz
  have hD := hD0.self (sz := s.heap.size)
  generalize hAe : va_A [(h0, .inr (4, [.null, .null, .null, .null, .null, .int 0, .int 0]))] s.heap.size = A at hD hZ ⊢
  have hA : ∀ q : Nat, s.heap.size ≤ q → A q := fun q h => by rw [← hAe]; exact Or.inr h
  have hS : va_S A s.heap s.heap [] := va_S.rf
  have hP : va_P D vwCl [(h0, .inr (4, [.null, .null, .null, .null, .null, .int 0, .int 0]))] s.heap := hP
  have hl := lv_entry ([.ref h0]) (n := 1) (Nat.le_of_ble_eq_true rfl)
  rw [lg_entry_eq]
  generalize (lg_sl ([.ref h0]) ++ List.replicate (1 - (lg_sl ([.ref h0])).length) Slot.unset).toArray = ls at hl ⊢
  have hl : lv_has ls 1 [(0, .ref h0)] := hl
  refine lv_aload_n hx hb dX3_init_0 rfl (lv_at hl 0 rfl) ?_
  refine W.objInit hx hb hown (hts (.methodLink RX3 3 objectInit) (by decide +kernel)) (hts (.instanceMethod objectInit) (by decide +kernel)) (hts (.code objectInit ⟨#[0xb1]⟩ 1 none) (by decide +kernel)) rfl (by rw [hml]; exact hl.1) rfl dX3_init_1 (Nat.le_of_ble_eq_true rfl) (Nat.le_of_ble_eq_true rfl) ?_
  refine W.eq (g2 := F0 m 4 ls []) rfl ?_
  refine lv_aload_n hx hb dX3_init_4 rfl (lv_at hl 0 rfl) ?_
  refine va_new (ci := 7) (fs := [.null]) (C := RX6) (T := TX6) (N := 1) hx hb hts im_X3_init_X6 tyX6 tyX6_ok hown (hts (.classLink RX3 9 RX6) (by decide +kernel)) (hts (.instantiable RX6 1) (by decide +kernel)) (hts (.initialized RX6) (by decide +kernel)) hE.1 hP hD hS hA rfl (fun j hj => by rcases (show j = 0 by omega) with rfl <;> rfl) (Nat.le_of_ble_eq_true rfl) (Nat.le_of_ble_eq_true rfl) dX3_init_5 (fun q1 H hP hD hS => ?_)
  have hP : va_P D vwCl [(h0, .inr (4, [.null, .null, .null, .null, .null, .int 0, .int 0])), (q1, .inr (7, [.null]))] H := hP
  have hD : va_D A [(h0, .inr (4, [.null, .null, .null, .null, .null, .int 0, .int 0])), (q1, .inr (7, [.null]))] := hD
  refine lv_dup hx hb dX3_init_8 rfl ?_
  refine ss_callv (ws := [(h0, .inr (4, [.null, .null, .null, .null, .null, .int 0, .int 0])), (q1, .inr (7, [.null]))]) (wc := [(q1, .inr (7, [.null]))]) (wr := [(h0, .inr (4, [.null, .null, .null, .null, .null, .int 0, .int 0]))]) [1] [0] (va_runIN (rm := { frames := 1, cells := 1, slots := 25, locals := 12 }) (mc := 1) (ms := 25) (As := []) (rest := [.ref q1, .ref h0]) ⟨hx, hb, hml, hown, hts⟩ (c_Tide_init l D cI cZ cB cO cJ a0 H.size q1) ⟨va_cnB 0 hts gX3_init_X6_init_n11 rfl rfl rfl hE.2.2.2.2.2.1 (hts (.initialized RX6) (by decide +kernel)) (by decide +kernel) ⟨Nat.le_of_ble_eq_true rfl, Nat.le_of_ble_eq_true rfl⟩, rfl, (hts (.instanceMethod yX6_init) (by decide +kernel))⟩ (preS_std (wc := [(q1, .inr (7, [.null]))]) [1] hE hZ hA hS hP hD rfl (by decide)) rfl rfl hl.1 rfl (lv_room (Nat.le_of_ble_eq_true rfl)) dX3_init_9 ⟨Nat.le_of_ble_eq_true rfl, Nat.le_of_ble_eq_true rfl⟩) hP hD hS hA rfl rfl (by decide) (by decide) (fun u H locs hw hP hD hS => ?_)
  obtain ⟨lv1, rfl⟩ : ∃ z, z = u := ⟨_, rfl⟩
  try dsimp only at hw
  have hP : va_P D vwCl [(h0, .inr (4, [.null, .null, .null, .null, .null, .int 0, .int 0])), (q1, .inr (7, [.ref lv1])), (lv1, .inl (cI, 25, .inl (fun _ => 0)))] H := hP
  have hD : va_D A [(h0, .inr (4, [.null, .null, .null, .null, .null, .int 0, .int 0])), (q1, .inr (7, [.ref lv1])), (lv1, .inl (cI, 25, .inl (fun _ => 0)))] := hD
  refine va_putF (D := D) (ci := 4) (v := .ref q1) (ty := .object "RiverBridges$Tide") (C := RX3) (T := TX3) (N := 7) hx hb hts im_X3_init_X3 tyX3 tyX3_ok nmX3 hown hE.1 hP hD hS 0 rfl rfl 0 (by decide) (hts (.fieldLink RX3 12 "RiverBridges$River" "tide" "LRiverBridges$Tide;") (by decide +kernel)) (fun _ h9 => h9) rfl hin rfl (by decide +kernel) rfl rfl (Nat.le_of_ble_eq_true rfl) dX3_init_12 (fun H locs hP hD hS => ?_)
  have hP : va_P D vwCl [(h0, .inr (4, [.ref q1, .null, .null, .null, .null, .int 0, .int 0])), (q1, .inr (7, [.ref lv1])), (lv1, .inl (cI, 25, .inl (fun _ => 0)))] H := hP
  have hD : va_D A [(h0, .inr (4, [.ref q1, .null, .null, .null, .null, .int 0, .int 0])), (q1, .inr (7, [.ref lv1])), (lv1, .inl (cI, 25, .inl (fun _ => 0)))] := hD
  refine lv_aload_n hx hb dX3_init_15 rfl (lv_at hl 0 rfl) ?_
  refine va_new (ci := 0) (fs := [.int 0, .null, .int 0]) (C := RJx4a65c) (T := TJx4a65c) (N := 3) hx hb hts im_X3_init_Jx4a65c tyJx4a65c tyJx4a65c_ok hown (hts (.classLink RX3 18 RJx4a65c) (by decide +kernel)) (hts (.instantiable RJx4a65c 3) (by decide +kernel)) (hts (.initialized RJx4a65c) (by decide +kernel)) hE.1 hP hD hS hA rfl (fun j hj => by rcases (show j = 0 ∨ j = 1 ∨ j = 2 by omega) with rfl | rfl | rfl <;> rfl) (Nat.le_of_ble_eq_true rfl) (Nat.le_of_ble_eq_true rfl) dX3_init_16 (fun q3 H hP hD hS => ?_)
  have hP : va_P D vwCl [(h0, .inr (4, [.ref q1, .null, .null, .null, .null, .int 0, .int 0])), (q1, .inr (7, [.ref lv1])), (lv1, .inl (cI, 25, .inl (fun _ => 0))), (q3, .inr (0, [.int 0, .null, .int 0]))] H := hP
  have hD : va_D A [(h0, .inr (4, [.ref q1, .null, .null, .null, .null, .int 0, .int 0])), (q1, .inr (7, [.ref lv1])), (lv1, .inl (cI, 25, .inl (fun _ => 0))), (q3, .inr (0, [.int 0, .null, .int 0]))] := hD
  refine lv_dup hx hb dX3_init_19 rfl ?_
  refine ss_callv (ws := [(h0, .inr (4, [.ref q1, .null, .null, .null, .null, .int 0, .int 0])), (q1, .inr (7, [.ref lv1])), (lv1, .inl (cI, 25, .inl (fun _ => 0))), (q3, .inr (0, [.int 0, .null, .int 0]))]) (wc := [(q3, .inr (0, [.int 0, .null, .int 0]))]) (wr := [(h0, .inr (4, [.ref q1, .null, .null, .null, .null, .int 0, .int 0])), (q1, .inr (7, [.ref lv1])), (lv1, .inl (cI, 25, .inl (fun _ => 0)))]) [3] [0, 1, 2] (va_runI (As := []) (rest := [.ref q3, .ref h0]) ⟨hx, hb, hml, hown, hts⟩ (c_AL_init l D cI cZ cB cO cJ a0 H.size q3) (cwI 0 hts gX3_init_Jx4a65c_init_da8c8 rfl rfl rfl (hts (.initialized RJx4a65c) (by decide +kernel)) (hts (.methodLink RX3 20 yJx4a65c_init_da8c8) (by decide +kernel)) (hts (.instanceMethod yJx4a65c_init_da8c8) (by decide +kernel)) rfl (by decide +kernel) ⟨Nat.le_of_ble_eq_true rfl, Nat.le_of_ble_eq_true rfl⟩) (preS_std (wc := [(q3, .inr (0, [.int 0, .null, .int 0]))]) [3] hE hZ hA hS hP hD rfl (by decide)) rfl rfl hl.1 rfl (lv_room (Nat.le_of_ble_eq_true rfl)) dX3_init_20 ⟨Nat.le_of_ble_eq_true rfl, Nat.le_of_ble_eq_true rfl⟩) hP hD hS hA rfl rfl (by decide) (by decide) (fun u H locs hw hP hD hS => ?_)
  try dsimp only at hw
  have hP : va_P D vwCl [(h0, .inr (4, [.ref q1, .null, .null, .null, .null, .int 0, .int 0])), (q1, .inr (7, [.ref lv1])), (lv1, .inl (cI, 25, .inl (fun _ => 0))), (q3, .inr (0, [.int 0, .ref a0, .int 0]))] H := hP
  have hD : va_D A [(h0, .inr (4, [.ref q1, .null, .null, .null, .null, .int 0, .int 0])), (q1, .inr (7, [.ref lv1])), (lv1, .inl (cI, 25, .inl (fun _ => 0))), (q3, .inr (0, [.int 0, .ref a0, .int 0]))] := hD
  refine va_putF (D := D) (ci := 4) (v := .ref q3) (ty := .object "java/util/ArrayList") (C := RX3) (T := TX3) (N := 7) hx hb hts im_X3_init_X3 tyX3 tyX3_ok nmX3 hown hE.1 hP hD hS 0 rfl rfl 1 (by decide) (hts (.fieldLink RX3 21 "RiverBridges$River" "bridges" "Ljava/util/ArrayList;") (by decide +kernel)) (fun _ h9 => h9) rfl hin rfl (by decide +kernel) rfl rfl (Nat.le_of_ble_eq_true rfl) dX3_init_23 (fun H locs hP hD hS => ?_)
  have hP : va_P D vwCl [(h0, .inr (4, [.ref q1, .ref q3, .null, .null, .null, .int 0, .int 0])), (q1, .inr (7, [.ref lv1])), (lv1, .inl (cI, 25, .inl (fun _ => 0))), (q3, .inr (0, [.int 0, .ref a0, .int 0]))] H := hP
  have hD : va_D A [(h0, .inr (4, [.ref q1, .ref q3, .null, .null, .null, .int 0, .int 0])), (q1, .inr (7, [.ref lv1])), (lv1, .inl (cI, 25, .inl (fun _ => 0))), (q3, .inr (0, [.int 0, .ref a0, .int 0]))] := hD
  refine lv_aload_n hx hb dX3_init_26 rfl (lv_at hl 0 rfl) ?_
  refine va_new (ci := 0) (fs := [.int 0, .null, .int 0]) (C := RJx4a65c) (T := TJx4a65c) (N := 3) hx hb hts im_X3_init_Jx4a65c tyJx4a65c tyJx4a65c_ok hown (hts (.classLink RX3 18 RJx4a65c) (by decide +kernel)) (hts (.instantiable RJx4a65c 3) (by decide +kernel)) (hts (.initialized RJx4a65c) (by decide +kernel)) hE.1 hP hD hS hA rfl (fun j hj => by rcases (show j = 0 ∨ j = 1 ∨ j = 2 by omega) with rfl | rfl | rfl <;> rfl) (Nat.le_of_ble_eq_true rfl) (Nat.le_of_ble_eq_true rfl) dX3_init_27 (fun q5 H hP hD hS => ?_)
  have hP : va_P D vwCl [(h0, .inr (4, [.ref q1, .ref q3, .null, .null, .null, .int 0, .int 0])), (q1, .inr (7, [.ref lv1])), (lv1, .inl (cI, 25, .inl (fun _ => 0))), (q3, .inr (0, [.int 0, .ref a0, .int 0])), (q5, .inr (0, [.int 0, .null, .int 0]))] H := hP
  have hD : va_D A [(h0, .inr (4, [.ref q1, .ref q3, .null, .null, .null, .int 0, .int 0])), (q1, .inr (7, [.ref lv1])), (lv1, .inl (cI, 25, .inl (fun _ => 0))), (q3, .inr (0, [.int 0, .ref a0, .int 0])), (q5, .inr (0, [.int 0, .null, .int 0]))] := hD
  refine lv_dup hx hb dX3_init_30 rfl ?_
  refine ss_callv (ws := [(h0, .inr (4, [.ref q1, .ref q3, .null, .null, .null, .int 0, .int 0])), (q1, .inr (7, [.ref lv1])), (lv1, .inl (cI, 25, .inl (fun _ => 0))), (q3, .inr (0, [.int 0, .ref a0, .int 0])), (q5, .inr (0, [.int 0, .null, .int 0]))]) (wc := [(q5, .inr (0, [.int 0, .null, .int 0]))]) (wr := [(h0, .inr (4, [.ref q1, .ref q3, .null, .null, .null, .int 0, .int 0])), (q1, .inr (7, [.ref lv1])), (lv1, .inl (cI, 25, .inl (fun _ => 0))), (q3, .inr (0, [.int 0, .ref a0, .int 0]))]) [4] [0, 1, 2, 3] (va_runI (As := []) (rest := [.ref q5, .ref h0]) ⟨hx, hb, hml, hown, hts⟩ (c_AL_init l D cI cZ cB cO cJ a0 H.size q5) (cwI 0 hts gX3_init_Jx4a65c_init_da8c8 rfl rfl rfl (hts (.initialized RJx4a65c) (by decide +kernel)) (hts (.methodLink RX3 20 yJx4a65c_init_da8c8) (by decide +kernel)) (hts (.instanceMethod yJx4a65c_init_da8c8) (by decide +kernel)) rfl (by decide +kernel) ⟨Nat.le_of_ble_eq_true rfl, Nat.le_of_ble_eq_true rfl⟩) (preS_std (wc := [(q5, .inr (0, [.int 0, .null, .int 0]))]) [4] hE hZ hA hS hP hD rfl (by decide)) rfl rfl hl.1 rfl (lv_room (Nat.le_of_ble_eq_true rfl)) dX3_init_31 ⟨Nat.le_of_ble_eq_true rfl, Nat.le_of_ble_eq_true rfl⟩) hP hD hS hA rfl rfl (by decide) (by decide) (fun u H locs hw hP hD hS => ?_)
  try dsimp only at hw
  have hP : va_P D vwCl [(h0, .inr (4, [.ref q1, .ref q3, .null, .null, .null, .int 0, .int 0])), (q1, .inr (7, [.ref lv1])), (lv1, .inl (cI, 25, .inl (fun _ => 0))), (q3, .inr (0, [.int 0, .ref a0, .int 0])), (q5, .inr (0, [.int 0, .ref a0, .int 0]))] H := hP
  have hD : va_D A [(h0, .inr (4, [.ref q1, .ref q3, .null, .null, .null, .int 0, .int 0])), (q1, .inr (7, [.ref lv1])), (lv1, .inl (cI, 25, .inl (fun _ => 0))), (q3, .inr (0, [.int 0, .ref a0, .int 0])), (q5, .inr (0, [.int 0, .ref a0, .int 0]))] := hD
  refine va_putF (D := D) (ci := 4) (v := .ref q5) (ty := .object "java/util/ArrayList") (C := RX3) (T := TX3) (N := 7) hx hb hts im_X3_init_X3 tyX3 tyX3_ok nmX3 hown hE.1 hP hD hS 0 rfl rfl 2 (by decide) (hts (.fieldLink RX3 25 "RiverBridges$River" "ships" "Ljava/util/ArrayList;") (by decide +kernel)) (fun _ h9 => h9) rfl hin rfl (by decide +kernel) rfl rfl (Nat.le_of_ble_eq_true rfl) dX3_init_34 (fun H locs hP hD hS => ?_)
  have hP : va_P D vwCl [(h0, .inr (4, [.ref q1, .ref q3, .ref q5, .null, .null, .int 0, .int 0])), (q1, .inr (7, [.ref lv1])), (lv1, .inl (cI, 25, .inl (fun _ => 0))), (q3, .inr (0, [.int 0, .ref a0, .int 0])), (q5, .inr (0, [.int 0, .ref a0, .int 0]))] H := hP
  have hD : va_D A [(h0, .inr (4, [.ref q1, .ref q3, .ref q5, .null, .null, .int 0, .int 0])), (q1, .inr (7, [.ref lv1])), (lv1, .inl (cI, 25, .inl (fun _ => 0))), (q3, .inr (0, [.int 0, .ref a0, .int 0])), (q5, .inr (0, [.int 0, .ref a0, .int 0]))] := hD
  refine lv_aload_n hx hb dX3_init_37 rfl (lv_at hl 0 rfl) ?_
  refine va_new (ci := 0) (fs := [.int 0, .null, .int 0]) (C := RJx4a65c) (T := TJx4a65c) (N := 3) hx hb hts im_X3_init_Jx4a65c tyJx4a65c tyJx4a65c_ok hown (hts (.classLink RX3 18 RJx4a65c) (by decide +kernel)) (hts (.instantiable RJx4a65c 3) (by decide +kernel)) (hts (.initialized RJx4a65c) (by decide +kernel)) hE.1 hP hD hS hA rfl (fun j hj => by rcases (show j = 0 ∨ j = 1 ∨ j = 2 by omega) with rfl | rfl | rfl <;> rfl) (Nat.le_of_ble_eq_true rfl) (Nat.le_of_ble_eq_true rfl) dX3_init_38 (fun q7 H hP hD hS => ?_)
  have hP : va_P D vwCl [(h0, .inr (4, [.ref q1, .ref q3, .ref q5, .null, .null, .int 0, .int 0])), (q1, .inr (7, [.ref lv1])), (lv1, .inl (cI, 25, .inl (fun _ => 0))), (q3, .inr (0, [.int 0, .ref a0, .int 0])), (q5, .inr (0, [.int 0, .ref a0, .int 0])), (q7, .inr (0, [.int 0, .null, .int 0]))] H := hP
  have hD : va_D A [(h0, .inr (4, [.ref q1, .ref q3, .ref q5, .null, .null, .int 0, .int 0])), (q1, .inr (7, [.ref lv1])), (lv1, .inl (cI, 25, .inl (fun _ => 0))), (q3, .inr (0, [.int 0, .ref a0, .int 0])), (q5, .inr (0, [.int 0, .ref a0, .int 0])), (q7, .inr (0, [.int 0, .null, .int 0]))] := hD
  refine lv_dup hx hb dX3_init_41 rfl ?_
  refine ss_callv (ws := [(h0, .inr (4, [.ref q1, .ref q3, .ref q5, .null, .null, .int 0, .int 0])), (q1, .inr (7, [.ref lv1])), (lv1, .inl (cI, 25, .inl (fun _ => 0))), (q3, .inr (0, [.int 0, .ref a0, .int 0])), (q5, .inr (0, [.int 0, .ref a0, .int 0])), (q7, .inr (0, [.int 0, .null, .int 0]))]) (wc := [(q7, .inr (0, [.int 0, .null, .int 0]))]) (wr := [(h0, .inr (4, [.ref q1, .ref q3, .ref q5, .null, .null, .int 0, .int 0])), (q1, .inr (7, [.ref lv1])), (lv1, .inl (cI, 25, .inl (fun _ => 0))), (q3, .inr (0, [.int 0, .ref a0, .int 0])), (q5, .inr (0, [.int 0, .ref a0, .int 0]))]) [5] [0, 1, 2, 3, 4] (va_runI (As := []) (rest := [.ref q7, .ref h0]) ⟨hx, hb, hml, hown, hts⟩ (c_AL_init l D cI cZ cB cO cJ a0 H.size q7) (cwI 0 hts gX3_init_Jx4a65c_init_da8c8 rfl rfl rfl (hts (.initialized RJx4a65c) (by decide +kernel)) (hts (.methodLink RX3 20 yJx4a65c_init_da8c8) (by decide +kernel)) (hts (.instanceMethod yJx4a65c_init_da8c8) (by decide +kernel)) rfl (by decide +kernel) ⟨Nat.le_of_ble_eq_true rfl, Nat.le_of_ble_eq_true rfl⟩) (preS_std (wc := [(q7, .inr (0, [.int 0, .null, .int 0]))]) [5] hE hZ hA hS hP hD rfl (by decide)) rfl rfl hl.1 rfl (lv_room (Nat.le_of_ble_eq_true rfl)) dX3_init_42 ⟨Nat.le_of_ble_eq_true rfl, Nat.le_of_ble_eq_true rfl⟩) hP hD hS hA rfl rfl (by decide) (by decide) (fun u H locs hw hP hD hS => ?_)
  try dsimp only at hw
  have hP : va_P D vwCl [(h0, .inr (4, [.ref q1, .ref q3, .ref q5, .null, .null, .int 0, .int 0])), (q1, .inr (7, [.ref lv1])), (lv1, .inl (cI, 25, .inl (fun _ => 0))), (q3, .inr (0, [.int 0, .ref a0, .int 0])), (q5, .inr (0, [.int 0, .ref a0, .int 0])), (q7, .inr (0, [.int 0, .ref a0, .int 0]))] H := hP
  have hD : va_D A [(h0, .inr (4, [.ref q1, .ref q3, .ref q5, .null, .null, .int 0, .int 0])), (q1, .inr (7, [.ref lv1])), (lv1, .inl (cI, 25, .inl (fun _ => 0))), (q3, .inr (0, [.int 0, .ref a0, .int 0])), (q5, .inr (0, [.int 0, .ref a0, .int 0])), (q7, .inr (0, [.int 0, .ref a0, .int 0]))] := hD
  refine va_putF (D := D) (ci := 4) (v := .ref q7) (ty := .object "java/util/ArrayList") (C := RX3) (T := TX3) (N := 7) hx hb hts im_X3_init_X3 tyX3 tyX3_ok nmX3 hown hE.1 hP hD hS 0 rfl rfl 3 (by decide) (hts (.fieldLink RX3 28 "RiverBridges$River" "keepers" "Ljava/util/ArrayList;") (by decide +kernel)) (fun _ h9 => h9) rfl hin rfl (by decide +kernel) rfl rfl (Nat.le_of_ble_eq_true rfl) dX3_init_45 (fun H locs hP hD hS => ?_)
  have hP : va_P D vwCl [(h0, .inr (4, [.ref q1, .ref q3, .ref q5, .ref q7, .null, .int 0, .int 0])), (q1, .inr (7, [.ref lv1])), (lv1, .inl (cI, 25, .inl (fun _ => 0))), (q3, .inr (0, [.int 0, .ref a0, .int 0])), (q5, .inr (0, [.int 0, .ref a0, .int 0])), (q7, .inr (0, [.int 0, .ref a0, .int 0]))] H := hP
  have hD : va_D A [(h0, .inr (4, [.ref q1, .ref q3, .ref q5, .ref q7, .null, .int 0, .int 0])), (q1, .inr (7, [.ref lv1])), (lv1, .inl (cI, 25, .inl (fun _ => 0))), (q3, .inr (0, [.int 0, .ref a0, .int 0])), (q5, .inr (0, [.int 0, .ref a0, .int 0])), (q7, .inr (0, [.int 0, .ref a0, .int 0]))] := hD
  refine lv_aload_n hx hb dX3_init_48 rfl (lv_at hl 0 rfl) ?_
  refine va_new (ci := 8) (fs := [.null, .null, .null, .null, .int 0]) (C := RX7) (T := TX7) (N := 5) hx hb hts im_X3_init_X7 tyX7 tyX7_ok hown (hts (.classLink RX3 31 RX7) (by decide +kernel)) (hts (.instantiable RX7 5) (by decide +kernel)) (hts (.initialized RX7) (by decide +kernel)) hE.1 hP hD hS hA rfl (fun j hj => by rcases (show j = 0 ∨ j = 1 ∨ j = 2 ∨ j = 3 ∨ j = 4 by omega) with rfl | rfl | rfl | rfl | rfl <;> rfl) (Nat.le_of_ble_eq_true rfl) (Nat.le_of_ble_eq_true rfl) dX3_init_49 (fun q9 H hP hD hS => ?_)
  have hP : va_P D vwCl [(h0, .inr (4, [.ref q1, .ref q3, .ref q5, .ref q7, .null, .int 0, .int 0])), (q1, .inr (7, [.ref lv1])), (lv1, .inl (cI, 25, .inl (fun _ => 0))), (q3, .inr (0, [.int 0, .ref a0, .int 0])), (q5, .inr (0, [.int 0, .ref a0, .int 0])), (q7, .inr (0, [.int 0, .ref a0, .int 0])), (q9, .inr (8, [.null, .null, .null, .null, .int 0]))] H := hP
  have hD : va_D A [(h0, .inr (4, [.ref q1, .ref q3, .ref q5, .ref q7, .null, .int 0, .int 0])), (q1, .inr (7, [.ref lv1])), (lv1, .inl (cI, 25, .inl (fun _ => 0))), (q3, .inr (0, [.int 0, .ref a0, .int 0])), (q5, .inr (0, [.int 0, .ref a0, .int 0])), (q7, .inr (0, [.int 0, .ref a0, .int 0])), (q9, .inr (8, [.null, .null, .null, .null, .int 0]))] := hD
  refine lv_dup hx hb dX3_init_52 rfl ?_
  refine ss_callv (ws := [(h0, .inr (4, [.ref q1, .ref q3, .ref q5, .ref q7, .null, .int 0, .int 0])), (q1, .inr (7, [.ref lv1])), (lv1, .inl (cI, 25, .inl (fun _ => 0))), (q3, .inr (0, [.int 0, .ref a0, .int 0])), (q5, .inr (0, [.int 0, .ref a0, .int 0])), (q7, .inr (0, [.int 0, .ref a0, .int 0])), (q9, .inr (8, [.null, .null, .null, .null, .int 0]))]) (wc := [(q9, .inr (8, [.null, .null, .null, .null, .int 0]))]) (wr := [(h0, .inr (4, [.ref q1, .ref q3, .ref q5, .ref q7, .null, .int 0, .int 0])), (q1, .inr (7, [.ref lv1])), (lv1, .inl (cI, 25, .inl (fun _ => 0))), (q3, .inr (0, [.int 0, .ref a0, .int 0])), (q5, .inr (0, [.int 0, .ref a0, .int 0])), (q7, .inr (0, [.int 0, .ref a0, .int 0]))]) [6] [0, 1, 2, 3, 4, 5] (va_runIN (rm := { frames := 1, cells := 20, slots := 224, locals := 12 }) (mc := 20) (ms := 224) (As := []) (rest := [.ref q9, .ref h0]) ⟨hx, hb, hml, hown, hts⟩ (c_Tt_init l D cI cZ cB cO cJ a0 H.size q9) ⟨va_cnB 0 hts gX3_init_X7_init_n33 rfl rfl rfl hE.2.2.2.2.2.2.1 (hts (.initialized RX7) (by decide +kernel)) (by decide +kernel) ⟨Nat.le_of_ble_eq_true rfl, Nat.le_of_ble_eq_true rfl⟩, rfl, (hts (.instanceMethod yX7_init) (by decide +kernel))⟩ (preS_std (wc := [(q9, .inr (8, [.null, .null, .null, .null, .int 0]))]) [6] hE hZ hA hS hP hD rfl (by decide)) rfl rfl hl.1 rfl (lv_room (Nat.le_of_ble_eq_true rfl)) dX3_init_53 ⟨Nat.le_of_ble_eq_true rfl, Nat.le_of_ble_eq_true rfl⟩) hP hD hS hA rfl rfl (by decide) (by decide) (fun u H locs hw hP hD hS => ?_)
  obtain ⟨tf, tl, ts, ti⟩ := u
  try dsimp only at hw
  have hP : va_P D vwCl [(h0, .inr (4, [.ref q1, .ref q3, .ref q5, .ref q7, .null, .int 0, .int 0])), (q1, .inr (7, [.ref lv1])), (lv1, .inl (cI, 25, .inl (fun _ => 0))), (q3, .inr (0, [.int 0, .ref a0, .int 0])), (q5, .inr (0, [.int 0, .ref a0, .int 0])), (q7, .inr (0, [.int 0, .ref a0, .int 0])), (q9, .inr (8, [.ref tf, .ref tl, .ref ts, .ref ti, .int 0])), (ts, .inl (cI, 8, .inl (fun _ => 0))), (ti, .inl (cZ, 8, .inl (fun _ => 0)))] H := hP
  have hD : va_D A [(h0, .inr (4, [.ref q1, .ref q3, .ref q5, .ref q7, .null, .int 0, .int 0])), (q1, .inr (7, [.ref lv1])), (lv1, .inl (cI, 25, .inl (fun _ => 0))), (q3, .inr (0, [.int 0, .ref a0, .int 0])), (q5, .inr (0, [.int 0, .ref a0, .int 0])), (q7, .inr (0, [.int 0, .ref a0, .int 0])), (q9, .inr (8, [.ref tf, .ref tl, .ref ts, .ref ti, .int 0])), (ts, .inl (cI, 8, .inl (fun _ => 0))), (ti, .inl (cZ, 8, .inl (fun _ => 0)))] := hD
  refine va_put (D := D) (ci := 4) (v := .ref q9) (ty := .object "RiverBridges$Timetable") (C := RX3) (T := TX3) (N := 7) hx hb hts im_X3_init_X3 tyX3 tyX3_ok nmX3 hown hE.1 hP hD hS 0 rfl rfl 4 (by decide) (hts (.fieldLink RX3 34 "RiverBridges$River" "shutTimes" "LRiverBridges$Timetable;") (by decide +kernel)) (fun _ h9 => h9) rfl (by decide +kernel) rfl rfl (Nat.le_of_ble_eq_true rfl) dX3_init_56 (fun H locs hP hD hS => ?_)
  have hP : va_P D vwCl [(h0, .inr (4, [.ref q1, .ref q3, .ref q5, .ref q7, .ref q9, .int 0, .int 0])), (q1, .inr (7, [.ref lv1])), (lv1, .inl (cI, 25, .inl (fun _ => 0))), (q3, .inr (0, [.int 0, .ref a0, .int 0])), (q5, .inr (0, [.int 0, .ref a0, .int 0])), (q7, .inr (0, [.int 0, .ref a0, .int 0])), (q9, .inr (8, [.ref tf, .ref tl, .ref ts, .ref ti, .int 0])), (ts, .inl (cI, 8, .inl (fun _ => 0))), (ti, .inl (cZ, 8, .inl (fun _ => 0)))] H := hP
  have hD : va_D A [(h0, .inr (4, [.ref q1, .ref q3, .ref q5, .ref q7, .ref q9, .int 0, .int 0])), (q1, .inr (7, [.ref lv1])), (lv1, .inl (cI, 25, .inl (fun _ => 0))), (q3, .inr (0, [.int 0, .ref a0, .int 0])), (q5, .inr (0, [.int 0, .ref a0, .int 0])), (q7, .inr (0, [.int 0, .ref a0, .int 0])), (q9, .inr (8, [.ref tf, .ref tl, .ref ts, .ref ti, .int 0])), (ts, .inl (cI, 8, .inl (fun _ => 0))), (ti, .inl (cZ, 8, .inl (fun _ => 0)))] := hD
  refine lv_aload_n hx hb dX3_init_59 rfl (lv_at hl 0 rfl) ?_
  refine lv_iconst (v := 5) hx hb dX3_init_60 (by decide) ?_
  refine va_put (D := D) (ci := 4) (v := .int 5) (ty := .int) (C := RX3) (T := TX3) (N := 7) hx hb hts im_X3_init_X3 tyX3 tyX3_ok nmX3 hown hE.1 hP hD hS 0 rfl rfl 5 (by decide) (hts (.fieldLink RX3 38 "RiverBridges$River" "legMinutes" "I") (by decide +kernel)) (fun _ h9 => h9) rfl (by decide +kernel) rfl rfl (Nat.le_of_ble_eq_true rfl) dX3_init_61 (fun H locs hP hD hS => ?_)
  have hP : va_P D vwCl [(h0, .inr (4, [.ref q1, .ref q3, .ref q5, .ref q7, .ref q9, .int 5, .int 0])), (q1, .inr (7, [.ref lv1])), (lv1, .inl (cI, 25, .inl (fun _ => 0))), (q3, .inr (0, [.int 0, .ref a0, .int 0])), (q5, .inr (0, [.int 0, .ref a0, .int 0])), (q7, .inr (0, [.int 0, .ref a0, .int 0])), (q9, .inr (8, [.ref tf, .ref tl, .ref ts, .ref ti, .int 0])), (ts, .inl (cI, 8, .inl (fun _ => 0))), (ti, .inl (cZ, 8, .inl (fun _ => 0)))] H := hP
  have hD : va_D A [(h0, .inr (4, [.ref q1, .ref q3, .ref q5, .ref q7, .ref q9, .int 5, .int 0])), (q1, .inr (7, [.ref lv1])), (lv1, .inl (cI, 25, .inl (fun _ => 0))), (q3, .inr (0, [.int 0, .ref a0, .int 0])), (q5, .inr (0, [.int 0, .ref a0, .int 0])), (q7, .inr (0, [.int 0, .ref a0, .int 0])), (q9, .inr (8, [.ref tf, .ref tl, .ref ts, .ref ti, .int 0])), (ts, .inl (cI, 8, .inl (fun _ => 0))), (ti, .inl (cZ, 8, .inl (fun _ => 0)))] := hD
  refine lv_aload_n hx hb dX3_init_64 rfl (lv_at hl 0 rfl) ?_
  refine lv_iconst (v := 0) hx hb dX3_init_65 (by decide) ?_
  refine va_put (D := D) (ci := 4) (v := .int 0) (ty := .int) (C := RX3) (T := TX3) (N := 7) hx hb hts im_X3_init_X3 tyX3 tyX3_ok nmX3 hown hE.1 hP hD hS 0 rfl rfl 6 (by decide) (hts (.fieldLink RX3 42 "RiverBridges$River" "minute" "I") (by decide +kernel)) (fun _ h9 => h9) rfl (by decide +kernel) rfl rfl (Nat.le_of_ble_eq_true rfl) dX3_init_66 (fun H locs hP hD hS => ?_)
  have hP : va_P D vwCl [(h0, .inr (4, [.ref q1, .ref q3, .ref q5, .ref q7, .ref q9, .int 5, .int 0])), (q1, .inr (7, [.ref lv1])), (lv1, .inl (cI, 25, .inl (fun _ => 0))), (q3, .inr (0, [.int 0, .ref a0, .int 0])), (q5, .inr (0, [.int 0, .ref a0, .int 0])), (q7, .inr (0, [.int 0, .ref a0, .int 0])), (q9, .inr (8, [.ref tf, .ref tl, .ref ts, .ref ti, .int 0])), (ts, .inl (cI, 8, .inl (fun _ => 0))), (ti, .inl (cZ, 8, .inl (fun _ => 0)))] H := hP
  have hD : va_D A [(h0, .inr (4, [.ref q1, .ref q3, .ref q5, .ref q7, .ref q9, .int 5, .int 0])), (q1, .inr (7, [.ref lv1])), (lv1, .inl (cI, 25, .inl (fun _ => 0))), (q3, .inr (0, [.int 0, .ref a0, .int 0])), (q5, .inr (0, [.int 0, .ref a0, .int 0])), (q7, .inr (0, [.int 0, .ref a0, .int 0])), (q9, .inr (8, [.ref tf, .ref tl, .ref ts, .ref ti, .int 0])), (ts, .inl (cI, 8, .inl (fun _ => 0))), (ti, .inl (cZ, 8, .inl (fun _ => 0)))] := hD
  have hP9 := hP.sub (ws' := [(h0, .inr (4, [.ref q1, .ref q3, .ref q5, .ref q7, .ref q9, .int 5, .int 0])), (q1, .inr (7, [.ref lv1])), (lv1, .inl (cI, 25, .inl (fun _ => 0))), (q3, .inr (0, [.int 0, .ref a0, .int 0])), (q5, .inr (0, [.int 0, .ref a0, .int 0])), (q7, .inr (0, [.int 0, .ref a0, .int 0])), (q9, .inr (8, [.ref tf, .ref tl, .ref ts, .ref ti, .int 0])), (ts, .inl (cI, 8, .inl (fun _ => 0))), (ti, .inl (cZ, 8, .inl (fun _ => 0)))]) [0, 1, 2, 3, 4, 5, 6, 7, 8] rfl
  have hD9 := hD.sub (ws' := [(h0, .inr (4, [.ref q1, .ref q3, .ref q5, .ref q7, .ref q9, .int 5, .int 0])), (q1, .inr (7, [.ref lv1])), (lv1, .inl (cI, 25, .inl (fun _ => 0))), (q3, .inr (0, [.int 0, .ref a0, .int 0])), (q5, .inr (0, [.int 0, .ref a0, .int 0])), (q7, .inr (0, [.int 0, .ref a0, .int 0])), (q9, .inr (8, [.ref tf, .ref tl, .ref ts, .ref ti, .int 0])), (ts, .inl (cI, 8, .inl (fun _ => 0))), (ti, .inl (cZ, 8, .inl (fun _ => 0)))]) [0, 1, 2, 3, 4, 5, 6, 7, 8] (by decide) rfl
  exact ss_vret (q1, lv1, q3, q5, q7, q9, tf, tl, ts, ti) hx hb hr hlocks hP9 hD9 hS (trivial) (Nat.le_of_ble_eq_true rfl) (Nat.le_of_ble_eq_true rfl) dX3_init_69

theorem im_X8_init_X2 : ∀ w ∈ wsX20, w ∈ wsX8_init := fun _ h => List.mem_cons_of_mem _ (List.mem_append_left _ (List.mem_append_left _ (List.mem_append_left _ (List.mem_append_left _ (List.mem_append_left _ (List.mem_append_left _ (List.mem_append_right _ h)))))))
theorem im_X8_init_X3 : ∀ w ∈ wsX30, w ∈ wsX8_init := fun _ h => List.mem_cons_of_mem _ (List.mem_append_left _ (List.mem_append_left _ (List.mem_append_left _ (List.mem_append_left _ (List.mem_append_right _ h)))))
theorem im_X8_init_X7 : ∀ w ∈ wsX70, w ∈ wsX8_init := fun _ h => List.mem_cons_of_mem _ (List.mem_append_left _ (List.mem_append_left _ (List.mem_append_left _ (List.mem_append_right _ h))))
theorem im_X8_init_X8 : ∀ w ∈ wsX80, w ∈ wsX8_init := fun _ h => List.mem_cons_of_mem _ (List.mem_append_left _ (List.mem_append_left _ (List.mem_append_left _ (List.mem_append_left _ (List.mem_append_left _ (List.mem_append_right _ h))))))
set_option maxHeartbeats 400000 in
set_option maxRecDepth 100000 in
theorem c_RB_init (l : Launch) (D : va_G) (cI cZ cB cO cJ : ClassId) (a0 : Nat) (sz : Nat) (h0 : Nat)  : Met l yX8_init wsX8_init ({ frames := 5, cells := 51, slots := 952, locals := 92 }) (Pcs D cI cZ cB cO cJ a0 [.ref h0] [(h0, .inr (9, [.null, .null, .null, .null, .int 0]))] sz) (va_Qv (fun (u : Nat × Nat × Nat × Nat × Nat × Nat × Nat × Nat × Nat × Nat × Nat × Nat × Nat × Nat × Nat × Nat × Nat × Nat × Nat) => True) (fun (u : Nat × Nat × Nat × Nat × Nat × Nat × Nat × Nat × Nat × Nat × Nat × Nat × Nat × Nat × Nat × Nat × Nat × Nat × Nat) t => va_P D vwCl [(h0, .inr (9, [.ref u.1, .ref u.2.1, .ref u.2.2.2.1, .ref u.2.2.2.2.2.2.2.2.2.2.2.2.2.2.1, .int 0])), (u.1, .inr (3, [.ref u.2.1, .int 0, .int 0, .int 0, .int 0, .int 1, .int 0, .int 0, .int 0, .int 0])), (u.2.1, .inr (6, [.ref u.2.2.1, .int 0])), (u.2.2.1, .inl (cI, 440, .inl (fun _ => 0))), (u.2.2.2.1, .inr (4, [.ref u.2.2.2.2.1, .ref u.2.2.2.2.2.2.1, .ref u.2.2.2.2.2.2.2.1, .ref u.2.2.2.2.2.2.2.2.1, .ref u.2.2.2.2.2.2.2.2.2.1, .int 5, .int 0])), (u.2.2.2.2.1, .inr (7, [.ref u.2.2.2.2.2.1])), (u.2.2.2.2.2.1, .inl (cI, 25, .inl (fun _ => 0))), (u.2.2.2.2.2.2.1, .inr (0, [.int 0, .ref a0, .int 0])), (u.2.2.2.2.2.2.2.1, .inr (0, [.int 0, .ref a0, .int 0])), (u.2.2.2.2.2.2.2.2.1, .inr (0, [.int 0, .ref a0, .int 0])), (u.2.2.2.2.2.2.2.2.2.1, .inr (8, [.ref u.2.2.2.2.2.2.2.2.2.2.1, .ref u.2.2.2.2.2.2.2.2.2.2.2.1, .ref u.2.2.2.2.2.2.2.2.2.2.2.2.1, .ref u.2.2.2.2.2.2.2.2.2.2.2.2.2.1, .int 0])), (u.2.2.2.2.2.2.2.2.2.2.2.2.1, .inl (cI, 8, .inl (fun _ => 0))), (u.2.2.2.2.2.2.2.2.2.2.2.2.2.1, .inl (cZ, 8, .inl (fun _ => 0))), (u.2.2.2.2.2.2.2.2.2.2.2.2.2.2.1, .inr (8, [.ref u.2.2.2.2.2.2.2.2.2.2.2.2.2.2.2.1, .ref u.2.2.2.2.2.2.2.2.2.2.2.2.2.2.2.2.1, .ref u.2.2.2.2.2.2.2.2.2.2.2.2.2.2.2.2.2.1, .ref u.2.2.2.2.2.2.2.2.2.2.2.2.2.2.2.2.2.2, .int 0])), (u.2.2.2.2.2.2.2.2.2.2.2.2.2.2.2.2.2.1, .inl (cI, 8, .inl (fun _ => 0))), (u.2.2.2.2.2.2.2.2.2.2.2.2.2.2.2.2.2.2, .inl (cZ, 8, .inl (fun _ => 0)))] t.heap ∧ va_D (va_A [(h0, .inr (9, [.null, .null, .null, .null, .int 0]))] sz) [(h0, .inr (9, [.ref u.1, .ref u.2.1, .ref u.2.2.2.1, .ref u.2.2.2.2.2.2.2.2.2.2.2.2.2.2.1, .int 0])), (u.1, .inr (3, [.ref u.2.1, .int 0, .int 0, .int 0, .int 0, .int 1, .int 0, .int 0, .int 0, .int 0])), (u.2.1, .inr (6, [.ref u.2.2.1, .int 0])), (u.2.2.1, .inl (cI, 440, .inl (fun _ => 0))), (u.2.2.2.1, .inr (4, [.ref u.2.2.2.2.1, .ref u.2.2.2.2.2.2.1, .ref u.2.2.2.2.2.2.2.1, .ref u.2.2.2.2.2.2.2.2.1, .ref u.2.2.2.2.2.2.2.2.2.1, .int 5, .int 0])), (u.2.2.2.2.1, .inr (7, [.ref u.2.2.2.2.2.1])), (u.2.2.2.2.2.1, .inl (cI, 25, .inl (fun _ => 0))), (u.2.2.2.2.2.2.1, .inr (0, [.int 0, .ref a0, .int 0])), (u.2.2.2.2.2.2.2.1, .inr (0, [.int 0, .ref a0, .int 0])), (u.2.2.2.2.2.2.2.2.1, .inr (0, [.int 0, .ref a0, .int 0])), (u.2.2.2.2.2.2.2.2.2.1, .inr (8, [.ref u.2.2.2.2.2.2.2.2.2.2.1, .ref u.2.2.2.2.2.2.2.2.2.2.2.1, .ref u.2.2.2.2.2.2.2.2.2.2.2.2.1, .ref u.2.2.2.2.2.2.2.2.2.2.2.2.2.1, .int 0])), (u.2.2.2.2.2.2.2.2.2.2.2.2.1, .inl (cI, 8, .inl (fun _ => 0))), (u.2.2.2.2.2.2.2.2.2.2.2.2.2.1, .inl (cZ, 8, .inl (fun _ => 0))), (u.2.2.2.2.2.2.2.2.2.2.2.2.2.2.1, .inr (8, [.ref u.2.2.2.2.2.2.2.2.2.2.2.2.2.2.2.1, .ref u.2.2.2.2.2.2.2.2.2.2.2.2.2.2.2.2.1, .ref u.2.2.2.2.2.2.2.2.2.2.2.2.2.2.2.2.2.1, .ref u.2.2.2.2.2.2.2.2.2.2.2.2.2.2.2.2.2.2, .int 0])), (u.2.2.2.2.2.2.2.2.2.2.2.2.2.2.2.2.2.1, .inl (cI, 8, .inl (fun _ => 0))), (u.2.2.2.2.2.2.2.2.2.2.2.2.2.2.2.2.2.2, .inl (cZ, 8, .inl (fun _ => 0)))]) (va_A [(h0, .inr (9, [.null, .null, .null, .null, .int 0]))] sz)) 51 952 (va_A [(h0, .inr (9, [.null, .null, .null, .null, .int 0]))] sz) := by
  refine Met.ofW (cc := cX8_init) (maxL := 1) (ret := none) (by decide) rfl ?_
  intro p e s m args below meth c s₁ B hml hv
  obtain ⟨rfl, hsz, hP, hE, hD0, hZ⟩ := hv
  have hx := B.exec
  have hb := B.bytes
  have hr := B.returns
  have hts := atoms_spec (ws := wsX8_init) B.pre
  have hown : s.vm.findClass RX8 = some m.cls := findClass_of_methodNamed B.named
  have hlocks := B.notSynchronized
  have hin := (name_of_methodNamed B.named B.method).1
  subst hsz
  have hD := hD0.self (sz := s.heap.size)
  generalize hAe : va_A [(h0, .inr (9, [.null, .null, .null, .null, .int 0]))] s.heap.size = A at hD hZ ⊢
  have hA : ∀ q : Nat, s.heap.size ≤ q → A q := fun q h => by rw [← hAe]; exact Or.inr h
  have hS : va_S A s.heap s.heap [] := va_S.rf
  have hP : va_P D vwCl [(h0, .inr (9, [.null, .null, .null, .null, .int 0]))] s.heap := hP
  have hl := lv_entry ([.ref h0]) (n := 1) (Nat.le_of_ble_eq_true rfl)
  rw [lg_entry_eq]
  generalize (lg_sl ([.ref h0]) ++ List.replicate (1 - (lg_sl ([.ref h0])).length) Slot.unset).toArray = ls at hl ⊢
  have hl : lv_has ls 1 [(0, .ref h0)] := hl
  refine lv_aload_n hx hb dX8_init_0 rfl (lv_at hl 0 rfl) ?_
  refine W.objInit hx hb hown (hts (.methodLink RX8 1 objectInit) (by decide +kernel)) (hts (.instanceMethod objectInit) (by decide +kernel)) (hts (.code objectInit ⟨#[0xb1]⟩ 1 none) (by decide +kernel)) rfl (by rw [hml]; exact hl.1) rfl dX8_init_1 (Nat.le_of_ble_eq_true rfl) (Nat.le_of_ble_eq_true rfl) ?_
  refine W.eq (g2 := F0 m 4 ls []) rfl ?_
  refine lv_aload_n hx hb dX8_init_4 rfl (lv_at hl 0 rfl) ?_
  refine va_new (ci := 3) (fs := [.null, .int 0, .int 0, .int 0, .int 0, .int 0, .int 0, .int 0, .int 0, .int 0]) (C := RX2) (T := TX2) (N := 10) hx hb hts im_X8_init_X2 tyX2 tyX2_ok hown (hts (.classLink RX8 7 RX2) (by decide +kernel)) (hts (.instantiable RX2 10) (by decide +kernel)) (hts (.initialized RX2) (by decide +kernel)) hE.1 hP hD hS hA rfl (fun j hj => by rcases (show j = 0 ∨ j = 1 ∨ j = 2 ∨ j = 3 ∨ j = 4 ∨ j = 5 ∨ j = 6 ∨ j = 7 ∨ j = 8 ∨ j = 9 by omega) with rfl | rfl | rfl | rfl | rfl | rfl | rfl | rfl | rfl | rfl <;> rfl) (Nat.le_of_ble_eq_true rfl) (Nat.le_of_ble_eq_true rfl) dX8_init_5 (fun q1 H hP hD hS => ?_)
  have hP : va_P D vwCl [(h0, .inr (9, [.null, .null, .null, .null, .int 0])), (q1, .inr (3, [.null, .int 0, .int 0, .int 0, .int 0, .int 0, .int 0, .int 0, .int 0, .int 0]))] H := hP
  have hD : va_D A [(h0, .inr (9, [.null, .null, .null, .null, .int 0])), (q1, .inr (3, [.null, .int 0, .int 0, .int 0, .int 0, .int 0, .int 0, .int 0, .int 0, .int 0]))] := hD
  refine lv_dup hx hb dX8_init_8 rfl ?_
  refine ss_callv (ws := [(h0, .inr (9, [.null, .null, .null, .null, .int 0])), (q1, .inr (3, [.null, .int 0, .int 0, .int 0, .int 0, .int 0, .int 0, .int 0, .int 0, .int 0]))]) (wc := [(q1, .inr (3, [.null, .int 0, .int 0, .int 0, .int 0, .int 0, .int 0, .int 0, .int 0, .int 0]))]) (wr := [(h0, .inr (9, [.null, .null, .null, .null, .int 0]))]) [1] [0] (va_runIN (rm := { frames := 2, cells := 2, slots := 442, locals := 32 }) (mc := 2) (ms := 442) (As := []) (rest := [.ref q1, .ref h0]) ⟨hx, hb, hml, hown, hts⟩ (c_Reader_init l D cI cZ cB cO cJ a0 H.size q1) ⟨va_cnB 0 hts gX8_init_X2_init_n9 rfl rfl rfl hE.2.1 (hts (.initialized RX2) (by decide +kernel)) (by decide +kernel) ⟨Nat.le_of_ble_eq_true rfl, Nat.le_of_ble_eq_true rfl⟩, rfl, (hts (.instanceMethod yX2_init) (by decide +kernel))⟩ (preS_std (wc := [(q1, .inr (3, [.null, .int 0, .int 0, .int 0, .int 0, .int 0, .int 0, .int 0, .int 0, .int 0]))]) [1] hE hZ hA hS hP hD rfl (by decide)) rfl rfl hl.1 rfl (lv_room (Nat.le_of_ble_eq_true rfl)) dX8_init_9 ⟨Nat.le_of_ble_eq_true rfl, Nat.le_of_ble_eq_true rfl⟩) hP hD hS hA rfl rfl (by decide) (by decide) (fun u H locs hw hP hD hS => ?_)
  obtain ⟨tp1, by1⟩ := u
  try dsimp only at hw
  have hP : va_P D vwCl [(h0, .inr (9, [.null, .null, .null, .null, .int 0])), (q1, .inr (3, [.ref tp1, .int 0, .int 0, .int 0, .int 0, .int 1, .int 0, .int 0, .int 0, .int 0])), (tp1, .inr (6, [.ref by1, .int 0])), (by1, .inl (cI, 440, .inl (fun _ => 0)))] H := hP
  have hD : va_D A [(h0, .inr (9, [.null, .null, .null, .null, .int 0])), (q1, .inr (3, [.ref tp1, .int 0, .int 0, .int 0, .int 0, .int 1, .int 0, .int 0, .int 0, .int 0])), (tp1, .inr (6, [.ref by1, .int 0])), (by1, .inl (cI, 440, .inl (fun _ => 0)))] := hD
  refine va_putF (D := D) (ci := 9) (v := .ref q1) (ty := .object "RiverBridges$Reader") (C := RX8) (T := TX8) (N := 5) hx hb hts im_X8_init_X8 tyX8 tyX8_ok nmX8 hown hE.1 hP hD hS 0 rfl rfl 0 (by decide) (hts (.fieldLink RX8 10 "RiverBridges" "reader" "LRiverBridges$Reader;") (by decide +kernel)) (fun _ h9 => h9) rfl hin rfl (by decide +kernel) rfl rfl (Nat.le_of_ble_eq_true rfl) dX8_init_12 (fun H locs hP hD hS => ?_)
  have hP : va_P D vwCl [(h0, .inr (9, [.ref q1, .null, .null, .null, .int 0])), (q1, .inr (3, [.ref tp1, .int 0, .int 0, .int 0, .int 0, .int 1, .int 0, .int 0, .int 0, .int 0])), (tp1, .inr (6, [.ref by1, .int 0])), (by1, .inl (cI, 440, .inl (fun _ => 0)))] H := hP
  have hD : va_D A [(h0, .inr (9, [.ref q1, .null, .null, .null, .int 0])), (q1, .inr (3, [.ref tp1, .int 0, .int 0, .int 0, .int 0, .int 1, .int 0, .int 0, .int 0, .int 0])), (tp1, .inr (6, [.ref by1, .int 0])), (by1, .inl (cI, 440, .inl (fun _ => 0)))] := hD
  refine lv_aload_n hx hb dX8_init_15 rfl (lv_at hl 0 rfl) ?_
  refine lv_aload_n hx hb dX8_init_16 rfl (lv_at hl 0 rfl) ?_
  refine va_get (D := D) (ci := 9) (v := .ref q1) (C := RX8) (T := TX8) (N := 5) hx hb hts im_X8_init_X8 hown hE.1 hP 0 rfl rfl 0 (by decide) (hts (.fieldLink RX8 10 "RiverBridges" "reader" "LRiverBridges$Reader;") (by decide +kernel)) (fun _ h9 => h9) rfl dX8_init_17 ?_
  refine va_get (D := D) (ci := 3) (v := .ref tp1) (C := RX2) (T := TX2) (N := 10) hx hb hts im_X8_init_X2 hown hE.1 hP 1 rfl rfl 0 (by decide) (hts (.fieldLink RX8 16 "RiverBridges$Reader" "tape" "LRiverBridges$Tape;") (by decide +kernel)) (fun _ h9 => h9) rfl dX8_init_20 ?_
  refine va_putF (D := D) (ci := 9) (v := .ref tp1) (ty := .object "RiverBridges$Tape") (C := RX8) (T := TX8) (N := 5) hx hb hts im_X8_init_X8 tyX8 tyX8_ok nmX8 hown hE.1 hP hD hS 0 rfl rfl 1 (by decide) (hts (.fieldLink RX8 20 "RiverBridges" "tape" "LRiverBridges$Tape;") (by decide +kernel)) (fun _ h9 => h9) rfl hin rfl (by decide +kernel) rfl rfl (Nat.le_of_ble_eq_true rfl) dX8_init_23 (fun H locs hP hD hS => ?_)
  have hP : va_P D vwCl [(h0, .inr (9, [.ref q1, .ref tp1, .null, .null, .int 0])), (q1, .inr (3, [.ref tp1, .int 0, .int 0, .int 0, .int 0, .int 1, .int 0, .int 0, .int 0, .int 0])), (tp1, .inr (6, [.ref by1, .int 0])), (by1, .inl (cI, 440, .inl (fun _ => 0)))] H := hP
  have hD : va_D A [(h0, .inr (9, [.ref q1, .ref tp1, .null, .null, .int 0])), (q1, .inr (3, [.ref tp1, .int 0, .int 0, .int 0, .int 0, .int 1, .int 0, .int 0, .int 0, .int 0])), (tp1, .inr (6, [.ref by1, .int 0])), (by1, .inl (cI, 440, .inl (fun _ => 0)))] := hD
  refine lv_aload_n hx hb dX8_init_26 rfl (lv_at hl 0 rfl) ?_
  refine va_new (ci := 4) (fs := [.null, .null, .null, .null, .null, .int 0, .int 0]) (C := RX3) (T := TX3) (N := 7) hx hb hts im_X8_init_X3 tyX3 tyX3_ok hown (hts (.classLink RX8 21 RX3) (by decide +kernel)) (hts (.instantiable RX3 7) (by decide +kernel)) (hts (.initialized RX3) (by decide +kernel)) hE.1 hP hD hS hA rfl (fun j hj => by rcases (show j = 0 ∨ j = 1 ∨ j = 2 ∨ j = 3 ∨ j = 4 ∨ j = 5 ∨ j = 6 by omega) with rfl | rfl | rfl | rfl | rfl | rfl | rfl <;> rfl) (Nat.le_of_ble_eq_true rfl) (Nat.le_of_ble_eq_true rfl) dX8_init_27 (fun q3 H hP hD hS => ?_)
  have hP : va_P D vwCl [(h0, .inr (9, [.ref q1, .ref tp1, .null, .null, .int 0])), (q1, .inr (3, [.ref tp1, .int 0, .int 0, .int 0, .int 0, .int 1, .int 0, .int 0, .int 0, .int 0])), (tp1, .inr (6, [.ref by1, .int 0])), (by1, .inl (cI, 440, .inl (fun _ => 0))), (q3, .inr (4, [.null, .null, .null, .null, .null, .int 0, .int 0]))] H := hP
  have hD : va_D A [(h0, .inr (9, [.ref q1, .ref tp1, .null, .null, .int 0])), (q1, .inr (3, [.ref tp1, .int 0, .int 0, .int 0, .int 0, .int 1, .int 0, .int 0, .int 0, .int 0])), (tp1, .inr (6, [.ref by1, .int 0])), (by1, .inl (cI, 440, .inl (fun _ => 0))), (q3, .inr (4, [.null, .null, .null, .null, .null, .int 0, .int 0]))] := hD
  refine lv_dup hx hb dX8_init_30 rfl ?_
  refine ss_callv (ws := [(h0, .inr (9, [.ref q1, .ref tp1, .null, .null, .int 0])), (q1, .inr (3, [.ref tp1, .int 0, .int 0, .int 0, .int 0, .int 1, .int 0, .int 0, .int 0, .int 0])), (tp1, .inr (6, [.ref by1, .int 0])), (by1, .inl (cI, 440, .inl (fun _ => 0))), (q3, .inr (4, [.null, .null, .null, .null, .null, .int 0, .int 0]))]) (wc := [(q3, .inr (4, [.null, .null, .null, .null, .null, .int 0, .int 0]))]) (wr := [(h0, .inr (9, [.ref q1, .ref tp1, .null, .null, .int 0])), (q1, .inr (3, [.ref tp1, .int 0, .int 0, .int 0, .int 0, .int 1, .int 0, .int 0, .int 0, .int 0])), (tp1, .inr (6, [.ref by1, .int 0])), (by1, .inl (cI, 440, .inl (fun _ => 0)))]) [4] [0, 1, 2, 3] (va_runIN (rm := { frames := 4, cells := 26, slots := 264, locals := 72 }) (mc := 26) (ms := 264) (As := []) (rest := [.ref q3, .ref h0]) ⟨hx, hb, hml, hown, hts⟩ (c_River_init l D cI cZ cB cO cJ a0 H.size q3) ⟨va_cnB 0 hts gX8_init_X3_init_n23 rfl rfl rfl hE.2.2.1 (hts (.initialized RX3) (by decide +kernel)) (by decide +kernel) ⟨Nat.le_of_ble_eq_true rfl, Nat.le_of_ble_eq_true rfl⟩, rfl, (hts (.instanceMethod yX3_init) (by decide +kernel))⟩ (preS_std (wc := [(q3, .inr (4, [.null, .null, .null, .null, .null, .int 0, .int 0]))]) [4] hE hZ hA hS hP hD rfl (by decide)) rfl rfl hl.1 rfl (lv_room (Nat.le_of_ble_eq_true rfl)) dX8_init_31 ⟨Nat.le_of_ble_eq_true rfl, Nat.le_of_ble_eq_true rfl⟩) hP hD hS hA rfl rfl (by decide) (by decide) (fun u H locs hw hP hD hS => ?_)
  obtain ⟨td1, lv1, br1, sh1, ke1, tt1, tf1, tl1, ts1, ti1⟩ := u
  try dsimp only at hw
  have hP : va_P D vwCl [(h0, .inr (9, [.ref q1, .ref tp1, .null, .null, .int 0])), (q1, .inr (3, [.ref tp1, .int 0, .int 0, .int 0, .int 0, .int 1, .int 0, .int 0, .int 0, .int 0])), (tp1, .inr (6, [.ref by1, .int 0])), (by1, .inl (cI, 440, .inl (fun _ => 0))), (q3, .inr (4, [.ref td1, .ref br1, .ref sh1, .ref ke1, .ref tt1, .int 5, .int 0])), (td1, .inr (7, [.ref lv1])), (lv1, .inl (cI, 25, .inl (fun _ => 0))), (br1, .inr (0, [.int 0, .ref a0, .int 0])), (sh1, .inr (0, [.int 0, .ref a0, .int 0])), (ke1, .inr (0, [.int 0, .ref a0, .int 0])), (tt1, .inr (8, [.ref tf1, .ref tl1, .ref ts1, .ref ti1, .int 0])), (ts1, .inl (cI, 8, .inl (fun _ => 0))), (ti1, .inl (cZ, 8, .inl (fun _ => 0)))] H := hP
  have hD : va_D A [(h0, .inr (9, [.ref q1, .ref tp1, .null, .null, .int 0])), (q1, .inr (3, [.ref tp1, .int 0, .int 0, .int 0, .int 0, .int 1, .int 0, .int 0, .int 0, .int 0])), (tp1, .inr (6, [.ref by1, .int 0])), (by1, .inl (cI, 440, .inl (fun _ => 0))), (q3, .inr (4, [.ref td1, .ref br1, .ref sh1, .ref ke1, .ref tt1, .int 5, .int 0])), (td1, .inr (7, [.ref lv1])), (lv1, .inl (cI, 25, .inl (fun _ => 0))), (br1, .inr (0, [.int 0, .ref a0, .int 0])), (sh1, .inr (0, [.int 0, .ref a0, .int 0])), (ke1, .inr (0, [.int 0, .ref a0, .int 0])), (tt1, .inr (8, [.ref tf1, .ref tl1, .ref ts1, .ref ti1, .int 0])), (ts1, .inl (cI, 8, .inl (fun _ => 0))), (ti1, .inl (cZ, 8, .inl (fun _ => 0)))] := hD
  refine va_putF (D := D) (ci := 9) (v := .ref q3) (ty := .object "RiverBridges$River") (C := RX8) (T := TX8) (N := 5) hx hb hts im_X8_init_X8 tyX8 tyX8_ok nmX8 hown hE.1 hP hD hS 0 rfl rfl 2 (by decide) (hts (.fieldLink RX8 24 "RiverBridges" "river" "LRiverBridges$River;") (by decide +kernel)) (fun _ h9 => h9) rfl hin rfl (by decide +kernel) rfl rfl (Nat.le_of_ble_eq_true rfl) dX8_init_34 (fun H locs hP hD hS => ?_)
  have hP : va_P D vwCl [(h0, .inr (9, [.ref q1, .ref tp1, .ref q3, .null, .int 0])), (q1, .inr (3, [.ref tp1, .int 0, .int 0, .int 0, .int 0, .int 1, .int 0, .int 0, .int 0, .int 0])), (tp1, .inr (6, [.ref by1, .int 0])), (by1, .inl (cI, 440, .inl (fun _ => 0))), (q3, .inr (4, [.ref td1, .ref br1, .ref sh1, .ref ke1, .ref tt1, .int 5, .int 0])), (td1, .inr (7, [.ref lv1])), (lv1, .inl (cI, 25, .inl (fun _ => 0))), (br1, .inr (0, [.int 0, .ref a0, .int 0])), (sh1, .inr (0, [.int 0, .ref a0, .int 0])), (ke1, .inr (0, [.int 0, .ref a0, .int 0])), (tt1, .inr (8, [.ref tf1, .ref tl1, .ref ts1, .ref ti1, .int 0])), (ts1, .inl (cI, 8, .inl (fun _ => 0))), (ti1, .inl (cZ, 8, .inl (fun _ => 0)))] H := hP
  have hD : va_D A [(h0, .inr (9, [.ref q1, .ref tp1, .ref q3, .null, .int 0])), (q1, .inr (3, [.ref tp1, .int 0, .int 0, .int 0, .int 0, .int 1, .int 0, .int 0, .int 0, .int 0])), (tp1, .inr (6, [.ref by1, .int 0])), (by1, .inl (cI, 440, .inl (fun _ => 0))), (q3, .inr (4, [.ref td1, .ref br1, .ref sh1, .ref ke1, .ref tt1, .int 5, .int 0])), (td1, .inr (7, [.ref lv1])), (lv1, .inl (cI, 25, .inl (fun _ => 0))), (br1, .inr (0, [.int 0, .ref a0, .int 0])), (sh1, .inr (0, [.int 0, .ref a0, .int 0])), (ke1, .inr (0, [.int 0, .ref a0, .int 0])), (tt1, .inr (8, [.ref tf1, .ref tl1, .ref ts1, .ref ti1, .int 0])), (ts1, .inl (cI, 8, .inl (fun _ => 0))), (ti1, .inl (cZ, 8, .inl (fun _ => 0)))] := hD
  refine lv_aload_n hx hb dX8_init_37 rfl (lv_at hl 0 rfl) ?_
  refine va_new (ci := 8) (fs := [.null, .null, .null, .null, .int 0]) (C := RX7) (T := TX7) (N := 5) hx hb hts im_X8_init_X7 tyX7 tyX7_ok hown (hts (.classLink RX8 28 RX7) (by decide +kernel)) (hts (.instantiable RX7 5) (by decide +kernel)) (hts (.initialized RX7) (by decide +kernel)) hE.1 hP hD hS hA rfl (fun j hj => by rcases (show j = 0 ∨ j = 1 ∨ j = 2 ∨ j = 3 ∨ j = 4 by omega) with rfl | rfl | rfl | rfl | rfl <;> rfl) (Nat.le_of_ble_eq_true rfl) (Nat.le_of_ble_eq_true rfl) dX8_init_38 (fun q5 H hP hD hS => ?_)
  have hP : va_P D vwCl [(h0, .inr (9, [.ref q1, .ref tp1, .ref q3, .null, .int 0])), (q1, .inr (3, [.ref tp1, .int 0, .int 0, .int 0, .int 0, .int 1, .int 0, .int 0, .int 0, .int 0])), (tp1, .inr (6, [.ref by1, .int 0])), (by1, .inl (cI, 440, .inl (fun _ => 0))), (q3, .inr (4, [.ref td1, .ref br1, .ref sh1, .ref ke1, .ref tt1, .int 5, .int 0])), (td1, .inr (7, [.ref lv1])), (lv1, .inl (cI, 25, .inl (fun _ => 0))), (br1, .inr (0, [.int 0, .ref a0, .int 0])), (sh1, .inr (0, [.int 0, .ref a0, .int 0])), (ke1, .inr (0, [.int 0, .ref a0, .int 0])), (tt1, .inr (8, [.ref tf1, .ref tl1, .ref ts1, .ref ti1, .int 0])), (ts1, .inl (cI, 8, .inl (fun _ => 0))), (ti1, .inl (cZ, 8, .inl (fun _ => 0))), (q5, .inr (8, [.null, .null, .null, .null, .int 0]))] H := hP
  have hD : va_D A [(h0, .inr (9, [.ref q1, .ref tp1, .ref q3, .null, .int 0])), (q1, .inr (3, [.ref tp1, .int 0, .int 0, .int 0, .int 0, .int 1, .int 0, .int 0, .int 0, .int 0])), (tp1, .inr (6, [.ref by1, .int 0])), (by1, .inl (cI, 440, .inl (fun _ => 0))), (q3, .inr (4, [.ref td1, .ref br1, .ref sh1, .ref ke1, .ref tt1, .int 5, .int 0])), (td1, .inr (7, [.ref lv1])), (lv1, .inl (cI, 25, .inl (fun _ => 0))), (br1, .inr (0, [.int 0, .ref a0, .int 0])), (sh1, .inr (0, [.int 0, .ref a0, .int 0])), (ke1, .inr (0, [.int 0, .ref a0, .int 0])), (tt1, .inr (8, [.ref tf1, .ref tl1, .ref ts1, .ref ti1, .int 0])), (ts1, .inl (cI, 8, .inl (fun _ => 0))), (ti1, .inl (cZ, 8, .inl (fun _ => 0))), (q5, .inr (8, [.null, .null, .null, .null, .int 0]))] := hD
  refine lv_dup hx hb dX8_init_41 rfl ?_
  refine ss_callv (ws := [(h0, .inr (9, [.ref q1, .ref tp1, .ref q3, .null, .int 0])), (q1, .inr (3, [.ref tp1, .int 0, .int 0, .int 0, .int 0, .int 1, .int 0, .int 0, .int 0, .int 0])), (tp1, .inr (6, [.ref by1, .int 0])), (by1, .inl (cI, 440, .inl (fun _ => 0))), (q3, .inr (4, [.ref td1, .ref br1, .ref sh1, .ref ke1, .ref tt1, .int 5, .int 0])), (td1, .inr (7, [.ref lv1])), (lv1, .inl (cI, 25, .inl (fun _ => 0))), (br1, .inr (0, [.int 0, .ref a0, .int 0])), (sh1, .inr (0, [.int 0, .ref a0, .int 0])), (ke1, .inr (0, [.int 0, .ref a0, .int 0])), (tt1, .inr (8, [.ref tf1, .ref tl1, .ref ts1, .ref ti1, .int 0])), (ts1, .inl (cI, 8, .inl (fun _ => 0))), (ti1, .inl (cZ, 8, .inl (fun _ => 0))), (q5, .inr (8, [.null, .null, .null, .null, .int 0]))]) (wc := [(q5, .inr (8, [.null, .null, .null, .null, .int 0]))]) (wr := [(h0, .inr (9, [.ref q1, .ref tp1, .ref q3, .null, .int 0])), (q1, .inr (3, [.ref tp1, .int 0, .int 0, .int 0, .int 0, .int 1, .int 0, .int 0, .int 0, .int 0])), (tp1, .inr (6, [.ref by1, .int 0])), (by1, .inl (cI, 440, .inl (fun _ => 0))), (q3, .inr (4, [.ref td1, .ref br1, .ref sh1, .ref ke1, .ref tt1, .int 5, .int 0])), (td1, .inr (7, [.ref lv1])), (lv1, .inl (cI, 25, .inl (fun _ => 0))), (br1, .inr (0, [.int 0, .ref a0, .int 0])), (sh1, .inr (0, [.int 0, .ref a0, .int 0])), (ke1, .inr (0, [.int 0, .ref a0, .int 0])), (tt1, .inr (8, [.ref tf1, .ref tl1, .ref ts1, .ref ti1, .int 0])), (ts1, .inl (cI, 8, .inl (fun _ => 0))), (ti1, .inl (cZ, 8, .inl (fun _ => 0)))]) [13] [0, 1, 2, 3, 4, 5, 6, 7, 8, 9, 10, 11, 12] (va_runIN (rm := { frames := 1, cells := 20, slots := 224, locals := 12 }) (mc := 20) (ms := 224) (As := []) (rest := [.ref q5, .ref h0]) ⟨hx, hb, hml, hown, hts⟩ (c_Tt_init l D cI cZ cB cO cJ a0 H.size q5) ⟨va_cnB 0 hts gX8_init_X7_init_n30 rfl rfl rfl hE.2.2.2.1 (hts (.initialized RX7) (by decide +kernel)) (by decide +kernel) ⟨Nat.le_of_ble_eq_true rfl, Nat.le_of_ble_eq_true rfl⟩, rfl, (hts (.instanceMethod yX7_init) (by decide +kernel))⟩ (preS_std (wc := [(q5, .inr (8, [.null, .null, .null, .null, .int 0]))]) [13] hE hZ hA hS hP hD rfl (by decide)) rfl rfl hl.1 rfl (lv_room (Nat.le_of_ble_eq_true rfl)) dX8_init_42 ⟨Nat.le_of_ble_eq_true rfl, Nat.le_of_ble_eq_true rfl⟩) hP hD hS hA rfl rfl (by decide) (by decide) (fun u H locs hw hP hD hS => ?_)
  obtain ⟨sf1, sl1, ss1, si1⟩ := u
  try dsimp only at hw
  have hP : va_P D vwCl [(h0, .inr (9, [.ref q1, .ref tp1, .ref q3, .null, .int 0])), (q1, .inr (3, [.ref tp1, .int 0, .int 0, .int 0, .int 0, .int 1, .int 0, .int 0, .int 0, .int 0])), (tp1, .inr (6, [.ref by1, .int 0])), (by1, .inl (cI, 440, .inl (fun _ => 0))), (q3, .inr (4, [.ref td1, .ref br1, .ref sh1, .ref ke1, .ref tt1, .int 5, .int 0])), (td1, .inr (7, [.ref lv1])), (lv1, .inl (cI, 25, .inl (fun _ => 0))), (br1, .inr (0, [.int 0, .ref a0, .int 0])), (sh1, .inr (0, [.int 0, .ref a0, .int 0])), (ke1, .inr (0, [.int 0, .ref a0, .int 0])), (tt1, .inr (8, [.ref tf1, .ref tl1, .ref ts1, .ref ti1, .int 0])), (ts1, .inl (cI, 8, .inl (fun _ => 0))), (ti1, .inl (cZ, 8, .inl (fun _ => 0))), (q5, .inr (8, [.ref sf1, .ref sl1, .ref ss1, .ref si1, .int 0])), (ss1, .inl (cI, 8, .inl (fun _ => 0))), (si1, .inl (cZ, 8, .inl (fun _ => 0)))] H := hP
  have hD : va_D A [(h0, .inr (9, [.ref q1, .ref tp1, .ref q3, .null, .int 0])), (q1, .inr (3, [.ref tp1, .int 0, .int 0, .int 0, .int 0, .int 1, .int 0, .int 0, .int 0, .int 0])), (tp1, .inr (6, [.ref by1, .int 0])), (by1, .inl (cI, 440, .inl (fun _ => 0))), (q3, .inr (4, [.ref td1, .ref br1, .ref sh1, .ref ke1, .ref tt1, .int 5, .int 0])), (td1, .inr (7, [.ref lv1])), (lv1, .inl (cI, 25, .inl (fun _ => 0))), (br1, .inr (0, [.int 0, .ref a0, .int 0])), (sh1, .inr (0, [.int 0, .ref a0, .int 0])), (ke1, .inr (0, [.int 0, .ref a0, .int 0])), (tt1, .inr (8, [.ref tf1, .ref tl1, .ref ts1, .ref ti1, .int 0])), (ts1, .inl (cI, 8, .inl (fun _ => 0))), (ti1, .inl (cZ, 8, .inl (fun _ => 0))), (q5, .inr (8, [.ref sf1, .ref sl1, .ref ss1, .ref si1, .int 0])), (ss1, .inl (cI, 8, .inl (fun _ => 0))), (si1, .inl (cZ, 8, .inl (fun _ => 0)))] := hD
  refine va_put (D := D) (ci := 9) (v := .ref q5) (ty := .object "RiverBridges$Timetable") (C := RX8) (T := TX8) (N := 5) hx hb hts im_X8_init_X8 tyX8 tyX8_ok nmX8 hown hE.1 hP hD hS 0 rfl rfl 3 (by decide) (hts (.fieldLink RX8 31 "RiverBridges" "spare" "LRiverBridges$Timetable;") (by decide +kernel)) (fun _ h9 => h9) rfl (by decide +kernel) rfl rfl (Nat.le_of_ble_eq_true rfl) dX8_init_45 (fun H locs hP hD hS => ?_)
  have hP : va_P D vwCl [(h0, .inr (9, [.ref q1, .ref tp1, .ref q3, .ref q5, .int 0])), (q1, .inr (3, [.ref tp1, .int 0, .int 0, .int 0, .int 0, .int 1, .int 0, .int 0, .int 0, .int 0])), (tp1, .inr (6, [.ref by1, .int 0])), (by1, .inl (cI, 440, .inl (fun _ => 0))), (q3, .inr (4, [.ref td1, .ref br1, .ref sh1, .ref ke1, .ref tt1, .int 5, .int 0])), (td1, .inr (7, [.ref lv1])), (lv1, .inl (cI, 25, .inl (fun _ => 0))), (br1, .inr (0, [.int 0, .ref a0, .int 0])), (sh1, .inr (0, [.int 0, .ref a0, .int 0])), (ke1, .inr (0, [.int 0, .ref a0, .int 0])), (tt1, .inr (8, [.ref tf1, .ref tl1, .ref ts1, .ref ti1, .int 0])), (ts1, .inl (cI, 8, .inl (fun _ => 0))), (ti1, .inl (cZ, 8, .inl (fun _ => 0))), (q5, .inr (8, [.ref sf1, .ref sl1, .ref ss1, .ref si1, .int 0])), (ss1, .inl (cI, 8, .inl (fun _ => 0))), (si1, .inl (cZ, 8, .inl (fun _ => 0)))] H := hP
  have hD : va_D A [(h0, .inr (9, [.ref q1, .ref tp1, .ref q3, .ref q5, .int 0])), (q1, .inr (3, [.ref tp1, .int 0, .int 0, .int 0, .int 0, .int 1, .int 0, .int 0, .int 0, .int 0])), (tp1, .inr (6, [.ref by1, .int 0])), (by1, .inl (cI, 440, .inl (fun _ => 0))), (q3, .inr (4, [.ref td1, .ref br1, .ref sh1, .ref ke1, .ref tt1, .int 5, .int 0])), (td1, .inr (7, [.ref lv1])), (lv1, .inl (cI, 25, .inl (fun _ => 0))), (br1, .inr (0, [.int 0, .ref a0, .int 0])), (sh1, .inr (0, [.int 0, .ref a0, .int 0])), (ke1, .inr (0, [.int 0, .ref a0, .int 0])), (tt1, .inr (8, [.ref tf1, .ref tl1, .ref ts1, .ref ti1, .int 0])), (ts1, .inl (cI, 8, .inl (fun _ => 0))), (ti1, .inl (cZ, 8, .inl (fun _ => 0))), (q5, .inr (8, [.ref sf1, .ref sl1, .ref ss1, .ref si1, .int 0])), (ss1, .inl (cI, 8, .inl (fun _ => 0))), (si1, .inl (cZ, 8, .inl (fun _ => 0)))] := hD
  refine lv_aload_n hx hb dX8_init_48 rfl (lv_at hl 0 rfl) ?_
  refine lv_iconst (v := 0) hx hb dX8_init_49 (by decide) ?_
  refine va_put (D := D) (ci := 9) (v := .int 0) (ty := .int) (C := RX8) (T := TX8) (N := 5) hx hb hts im_X8_init_X8 tyX8 tyX8_ok nmX8 hown hE.1 hP hD hS 0 rfl rfl 4 (by decide) (hts (.fieldLink RX8 35 "RiverBridges" "faultKind" "I") (by decide +kernel)) (fun _ h9 => h9) rfl (by decide +kernel) rfl rfl (Nat.le_of_ble_eq_true rfl) dX8_init_50 (fun H locs hP hD hS => ?_)
  have hP : va_P D vwCl [(h0, .inr (9, [.ref q1, .ref tp1, .ref q3, .ref q5, .int 0])), (q1, .inr (3, [.ref tp1, .int 0, .int 0, .int 0, .int 0, .int 1, .int 0, .int 0, .int 0, .int 0])), (tp1, .inr (6, [.ref by1, .int 0])), (by1, .inl (cI, 440, .inl (fun _ => 0))), (q3, .inr (4, [.ref td1, .ref br1, .ref sh1, .ref ke1, .ref tt1, .int 5, .int 0])), (td1, .inr (7, [.ref lv1])), (lv1, .inl (cI, 25, .inl (fun _ => 0))), (br1, .inr (0, [.int 0, .ref a0, .int 0])), (sh1, .inr (0, [.int 0, .ref a0, .int 0])), (ke1, .inr (0, [.int 0, .ref a0, .int 0])), (tt1, .inr (8, [.ref tf1, .ref tl1, .ref ts1, .ref ti1, .int 0])), (ts1, .inl (cI, 8, .inl (fun _ => 0))), (ti1, .inl (cZ, 8, .inl (fun _ => 0))), (q5, .inr (8, [.ref sf1, .ref sl1, .ref ss1, .ref si1, .int 0])), (ss1, .inl (cI, 8, .inl (fun _ => 0))), (si1, .inl (cZ, 8, .inl (fun _ => 0)))] H := hP
  have hD : va_D A [(h0, .inr (9, [.ref q1, .ref tp1, .ref q3, .ref q5, .int 0])), (q1, .inr (3, [.ref tp1, .int 0, .int 0, .int 0, .int 0, .int 1, .int 0, .int 0, .int 0, .int 0])), (tp1, .inr (6, [.ref by1, .int 0])), (by1, .inl (cI, 440, .inl (fun _ => 0))), (q3, .inr (4, [.ref td1, .ref br1, .ref sh1, .ref ke1, .ref tt1, .int 5, .int 0])), (td1, .inr (7, [.ref lv1])), (lv1, .inl (cI, 25, .inl (fun _ => 0))), (br1, .inr (0, [.int 0, .ref a0, .int 0])), (sh1, .inr (0, [.int 0, .ref a0, .int 0])), (ke1, .inr (0, [.int 0, .ref a0, .int 0])), (tt1, .inr (8, [.ref tf1, .ref tl1, .ref ts1, .ref ti1, .int 0])), (ts1, .inl (cI, 8, .inl (fun _ => 0))), (ti1, .inl (cZ, 8, .inl (fun _ => 0))), (q5, .inr (8, [.ref sf1, .ref sl1, .ref ss1, .ref si1, .int 0])), (ss1, .inl (cI, 8, .inl (fun _ => 0))), (si1, .inl (cZ, 8, .inl (fun _ => 0)))] := hD
  have hP9 := hP.sub (ws' := [(h0, .inr (9, [.ref q1, .ref tp1, .ref q3, .ref q5, .int 0])), (q1, .inr (3, [.ref tp1, .int 0, .int 0, .int 0, .int 0, .int 1, .int 0, .int 0, .int 0, .int 0])), (tp1, .inr (6, [.ref by1, .int 0])), (by1, .inl (cI, 440, .inl (fun _ => 0))), (q3, .inr (4, [.ref td1, .ref br1, .ref sh1, .ref ke1, .ref tt1, .int 5, .int 0])), (td1, .inr (7, [.ref lv1])), (lv1, .inl (cI, 25, .inl (fun _ => 0))), (br1, .inr (0, [.int 0, .ref a0, .int 0])), (sh1, .inr (0, [.int 0, .ref a0, .int 0])), (ke1, .inr (0, [.int 0, .ref a0, .int 0])), (tt1, .inr (8, [.ref tf1, .ref tl1, .ref ts1, .ref ti1, .int 0])), (ts1, .inl (cI, 8, .inl (fun _ => 0))), (ti1, .inl (cZ, 8, .inl (fun _ => 0))), (q5, .inr (8, [.ref sf1, .ref sl1, .ref ss1, .ref si1, .int 0])), (ss1, .inl (cI, 8, .inl (fun _ => 0))), (si1, .inl (cZ, 8, .inl (fun _ => 0)))]) [0, 1, 2, 3, 4, 5, 6, 7, 8, 9, 10, 11, 12, 13, 14, 15] rfl
  have hD9 := hD.sub (ws' := [(h0, .inr (9, [.ref q1, .ref tp1, .ref q3, .ref q5, .int 0])), (q1, .inr (3, [.ref tp1, .int 0, .int 0, .int 0, .int 0, .int 1, .int 0, .int 0, .int 0, .int 0])), (tp1, .inr (6, [.ref by1, .int 0])), (by1, .inl (cI, 440, .inl (fun _ => 0))), (q3, .inr (4, [.ref td1, .ref br1, .ref sh1, .ref ke1, .ref tt1, .int 5, .int 0])), (td1, .inr (7, [.ref lv1])), (lv1, .inl (cI, 25, .inl (fun _ => 0))), (br1, .inr (0, [.int 0, .ref a0, .int 0])), (sh1, .inr (0, [.int 0, .ref a0, .int 0])), (ke1, .inr (0, [.int 0, .ref a0, .int 0])), (tt1, .inr (8, [.ref tf1, .ref tl1, .ref ts1, .ref ti1, .int 0])), (ts1, .inl (cI, 8, .inl (fun _ => 0))), (ti1, .inl (cZ, 8, .inl (fun _ => 0))), (q5, .inr (8, [.ref sf1, .ref sl1, .ref ss1, .ref si1, .int 0])), (ss1, .inl (cI, 8, .inl (fun _ => 0))), (si1, .inl (cZ, 8, .inl (fun _ => 0)))]) [0, 1, 2, 3, 4, 5, 6, 7, 8, 9, 10, 11, 12, 13, 14, 15] (by decide) rfl
  exact ss_vret (q1, tp1, by1, q3, td1, lv1, br1, sh1, ke1, tt1, tf1, tl1, ts1, ti1, q5, sf1, sl1, ss1, si1) hx hb hr hlocks hP9 hD9 hS (trivial) (Nat.le_of_ble_eq_true rfl) (Nat.le_of_ble_eq_true rfl) dX8_init_53

