section SL
variable {p : Program} {l : Launch} {e : Env} {R : Room} {s : State} {m : MethodId} {args : Array Value} {below : List Frame} {meth : Method} {c : Code} {cells slots : Nat} {Q : State → Prop} {pc : Nat} {st : List Value}
/-- a counting loop up to N, over any state that the invariant tells -/
theorem ss_loop {N : Nat} {J : Nat → Heap → List Loc → Array Slot → Prop}
    (hs : ∀ (fu i : Nat) (H : Heap) (locs : List Loc) (ls : Array Slot), i + fu = N → J i H locs ls → (∀ f2 : Nat, fu = f2 + 1 → ∀ (H1 : Heap) (locs1 : List Loc) (ls1 : Array Slot), J (i + 1) H1 locs1 ls1 → W p l e R s m args below meth c H1 locs1 cells slots Q (F0 m pc ls1 st)) → W p l e R s m args below meth c H locs cells slots Q (F0 m pc ls st)) :
    ∀ (fu i : Nat), i + fu = N → ∀ (H : Heap) (locs : List Loc) (ls : Array Slot), J i H locs ls → W p l e R s m args below meth c H locs cells slots Q (F0 m pc ls st) := by
  intro fu
  induction fu with
  | zero =>
    intro i hi H locs ls hJ
    exact hs 0 i H locs ls hi hJ (fun f2 h => absurd h (by omega))
  | succ fu ih =>
    intro i hi H locs ls hJ
    refine hs (fu + 1) i H locs ls hi hJ (fun f2 h => ?_)
    have e9 : f2 = fu := by omega
    subst e9
    exact ih (i + 1) (by omega)
end SL
theorem im_X3_countWaits_X3 : ∀ w ∈ wsX30, w ∈ wsX3_countWaits := fun _ h => List.mem_cons_of_mem _ (List.mem_append_left _ (List.mem_append_left _ (List.mem_append_right _ h)))
set_option maxHeartbeats 400000 in
set_option maxRecDepth 100000 in
theorem c_countWaits (l : Launch) (D : va_G) (cI cZ cB cO cJ : ClassId) (a0 : Nat) (sz : Nat) (rv td br sh ke tt : Nat) (lg mi : Int32)  : Met l yX3_countWaits wsX3_countWaits ({ frames := 1, cells := 0, slots := 0, locals := 20 }) (Pcs D cI cZ cB cO cJ a0 [.ref rv] [(rv, .inr (4, [.ref td, .ref br, .ref sh, .ref ke, .ref tt, .int lg, .int mi])), (sh, .inr (0, [.int 0, .ref a0, .int 0]))] sz) (va_Qv (fun (u : Unit) => True) (fun (u : Unit) t => va_P D vwCl [(rv, .inr (4, [.ref td, .ref br, .ref sh, .ref ke, .ref tt, .int lg, .int mi])), (sh, .inr (0, [.int 0, .ref a0, .int 0]))] t.heap ∧ va_D (va_A [(rv, .inr (4, [.ref td, .ref br, .ref sh, .ref ke, .ref tt, .int lg, .int mi])), (sh, .inr (0, [.int 0, .ref a0, .int 0]))] sz) [(rv, .inr (4, [.ref td, .ref br, .ref sh, .ref ke, .ref tt, .int lg, .int mi])), (sh, .inr (0, [.int 0, .ref a0, .int 0]))]) (va_A [(rv, .inr (4, [.ref td, .ref br, .ref sh, .ref ke, .ref tt, .int lg, .int mi])), (sh, .inr (0, [.int 0, .ref a0, .int 0]))] sz)) 0 0 (va_A [(rv, .inr (4, [.ref td, .ref br, .ref sh, .ref ke, .ref tt, .int lg, .int mi])), (sh, .inr (0, [.int 0, .ref a0, .int 0]))] sz) := by
  refine Met.ofW (cc := cX3_countWaits) (maxL := 3) (ret := none) (by decide) rfl ?_
  intro p e s m args below meth c s₁ B hml hv
  obtain ⟨rfl, hsz, hP, hE, hD0, hZ⟩ := hv
  have hx := B.exec
  have hb := B.bytes
  have hr := B.returns
  have hts := atoms_spec (ws := wsX3_countWaits) B.pre
  have hown : s.vm.findClass RX3 = some m.cls := findClass_of_methodNamed B.named
  have hlocks := B.notSynchronized
  have hin := (name_of_methodNamed B.named B.method).1
  subst hsz
  have hD := hD0.self (sz := s.heap.size)
  generalize hAe : va_A [(rv, .inr (4, [.ref td, .ref br, .ref sh, .ref ke, .ref tt, .int lg, .int mi])), (sh, .inr (0, [.int 0, .ref a0, .int 0]))] s.heap.size = A at hD hZ ⊢
  have hA : ∀ q : Nat, s.heap.size ≤ q → A q := fun q h => by rw [← hAe]; exact Or.inr h
  have hS : va_S A s.heap s.heap [] := va_S.rf
  have hP : va_P D vwCl [(rv, .inr (4, [.ref td, .ref br, .ref sh, .ref ke, .ref tt, .int lg, .int mi])), (sh, .inr (0, [.int 0, .ref a0, .int 0]))] s.heap := hP
  have hl := lv_entry ([.ref rv]) (n := 3) (Nat.le_of_ble_eq_true rfl)
  rw [lg_entry_eq]
  generalize (lg_sl ([.ref rv]) ++ List.replicate (3 - (lg_sl ([.ref rv])).length) Slot.unset).toArray = ls at hl ⊢
  have hl : lv_has ls 3 [(0, .ref rv)] := hl
  refine lv_iconst (v := 0) hx hb dX3_countWaits_0 (by decide) ?_
  refine lv_istore_n (lv' := [(1, .int 0), (0, .ref rv)]) hx hb dX3_countWaits_1 rfl hl (by decide) rfl (fun ls hl => ?_)
  refine lv_iload_n hx hb dX3_countWaits_2 rfl (lv_at hl 0 rfl) ?_
  refine lv_aload_n hx hb dX3_countWaits_3 rfl (lv_at hl 1 rfl) ?_
  refine va_get (D := D) (ci := 4) (v := .ref sh) (C := RX3) (T := TX3) (N := 7) hx hb hts im_X3_countWaits_X3 hown hE.1 hP 0 rfl rfl 2 (by decide) (hts (.fieldLink RX3 25 "RiverBridges$River" "ships" "Ljava/util/ArrayList;") (by decide +kernel)) (fun _ h9 => h9) rfl dX3_countWaits_4 ?_
  refine ss_calli (ws := [(rv, .inr (4, [.ref td, .ref br, .ref sh, .ref ke, .ref tt, .int lg, .int mi])), (sh, .inr (0, [.int 0, .ref a0, .int 0]))]) (wc := [(sh, .inr (0, [.int 0, .ref a0, .int 0]))]) (wr := [(rv, .inr (4, [.ref td, .ref br, .ref sh, .ref ke, .ref tt, .int lg, .int mi]))]) [1] [0] (va_runV (As := []) (rest := [.int 0]) ⟨hx, hb, hml, hown, hts⟩ (c_AL_size l D cI cZ cB cO cJ a0 s.heap.size sh a0 0 0) (cwV 0 hts gX3_countWaits_Jx4a65c_size_8abf5 rfl rfl rfl (by decide +kernel) ⟨Nat.le_of_ble_eq_true rfl, Nat.le_of_ble_eq_true rfl⟩) (preV_std (wc := [(sh, .inr (0, [.int 0, .ref a0, .int 0]))]) [1] hE hZ hA hS hP hD rfl (by decide) (fun h9 => va_recv hE.1 h9 (ci := 0) (q0 := 0) rfl rfl)) rfl rfl hl.1 rfl (lv_room (Nat.le_of_ble_eq_true rfl)) dX3_countWaits_7 ⟨Nat.le_of_ble_eq_true rfl, Nat.le_of_ble_eq_true rfl⟩) hP hD hS hA rfl rfl (by decide) (by decide) (fun r1 u H locs hw hP hD hS => ?_)
  try dsimp only at hw
  subst hw
  have hP : va_P D vwCl [(rv, .inr (4, [.ref td, .ref br, .ref sh, .ref ke, .ref tt, .int lg, .int mi])), (sh, .inr (0, [.int 0, .ref a0, .int 0]))] H := hP
  have hD : va_D A [(rv, .inr (4, [.ref td, .ref br, .ref sh, .ref ke, .ref tt, .int lg, .int mi])), (sh, .inr (0, [.int 0, .ref a0, .int 0]))] := hD
  refine lv_icmp_ge (tgt := 49) hx hb dX3_countWaits_10 (by decide) (fun _ => ?_) (fun c9 => absurd (by decide) c9)
  have hP9 := hP.sub (ws' := [(rv, .inr (4, [.ref td, .ref br, .ref sh, .ref ke, .ref tt, .int lg, .int mi])), (sh, .inr (0, [.int 0, .ref a0, .int 0]))]) [0, 1] rfl
  have hD9 := hD.sub (ws' := [(rv, .inr (4, [.ref td, .ref br, .ref sh, .ref ke, .ref tt, .int lg, .int mi])), (sh, .inr (0, [.int 0, .ref a0, .int 0]))]) [0, 1] (by decide) rfl
  exact ss_vret () hx hb hr hlocks hP9 hD9 hS (trivial) (Nat.le_of_ble_eq_true rfl) (Nat.le_of_ble_eq_true rfl) dX3_countWaits_49

theorem im_X3_bringAll_X3 : ∀ w ∈ wsX30, w ∈ wsX3_bringAll := fun _ h => List.mem_cons_of_mem _ (List.mem_append_left _ (List.mem_append_left _ (List.mem_append_left _ (List.mem_append_left _ (List.mem_append_right _ h)))))
set_option maxHeartbeats 400000 in
set_option maxRecDepth 100000 in
theorem c_bringAll (l : Launch) (D : va_G) (cI cZ cB cO cJ : ClassId) (a0 : Nat) (sz : Nat) (rv td br sh ke tt : Nat) (lg mi : Int32)  : Met l yX3_bringAll wsX3_bringAll ({ frames := 1, cells := 0, slots := 0, locals := 20 }) (Pcs D cI cZ cB cO cJ a0 [.ref rv] [(rv, .inr (4, [.ref td, .ref br, .ref sh, .ref ke, .ref tt, .int lg, .int mi])), (br, .inr (0, [.int 0, .ref a0, .int 0])), (sh, .inr (0, [.int 0, .ref a0, .int 0])), (ke, .inr (0, [.int 0, .ref a0, .int 0]))] sz) (va_Qv (fun (u : Unit) => True) (fun (u : Unit) t => va_P D vwCl [(rv, .inr (4, [.ref td, .ref br, .ref sh, .ref ke, .ref tt, .int lg, .int mi])), (br, .inr (0, [.int 0, .ref a0, .int 0])), (sh, .inr (0, [.int 0, .ref a0, .int 0])), (ke, .inr (0, [.int 0, .ref a0, .int 0]))] t.heap ∧ va_D (va_A [(rv, .inr (4, [.ref td, .ref br, .ref sh, .ref ke, .ref tt, .int lg, .int mi])), (br, .inr (0, [.int 0, .ref a0, .int 0])), (sh, .inr (0, [.int 0, .ref a0, .int 0])), (ke, .inr (0, [.int 0, .ref a0, .int 0]))] sz) [(rv, .inr (4, [.ref td, .ref br, .ref sh, .ref ke, .ref tt, .int lg, .int mi])), (br, .inr (0, [.int 0, .ref a0, .int 0])), (sh, .inr (0, [.int 0, .ref a0, .int 0])), (ke, .inr (0, [.int 0, .ref a0, .int 0]))]) (va_A [(rv, .inr (4, [.ref td, .ref br, .ref sh, .ref ke, .ref tt, .int lg, .int mi])), (br, .inr (0, [.int 0, .ref a0, .int 0])), (sh, .inr (0, [.int 0, .ref a0, .int 0])), (ke, .inr (0, [.int 0, .ref a0, .int 0]))] sz)) 0 0 (va_A [(rv, .inr (4, [.ref td, .ref br, .ref sh, .ref ke, .ref tt, .int lg, .int mi])), (br, .inr (0, [.int 0, .ref a0, .int 0])), (sh, .inr (0, [.int 0, .ref a0, .int 0])), (ke, .inr (0, [.int 0, .ref a0, .int 0]))] sz) := by
  refine Met.ofW (cc := cX3_bringAll) (maxL := 3) (ret := none) (by decide) rfl ?_
  intro p e s m args below meth c s₁ B hml hv
  obtain ⟨rfl, hsz, hP, hE, hD0, hZ⟩ := hv
  have hx := B.exec
  have hb := B.bytes
  have hr := B.returns
  have hts := atoms_spec (ws := wsX3_bringAll) B.pre
  have hown : s.vm.findClass RX3 = some m.cls := findClass_of_methodNamed B.named
  have hlocks := B.notSynchronized
  have hin := (name_of_methodNamed B.named B.method).1
  subst hsz
  have hD := hD0.self (sz := s.heap.size)
  generalize hAe : va_A [(rv, .inr (4, [.ref td, .ref br, .ref sh, .ref ke, .ref tt, .int lg, .int mi])), (br, .inr (0, [.int 0, .ref a0, .int 0])), (sh, .inr (0, [.int 0, .ref a0, .int 0])), (ke, .inr (0, [.int 0, .ref a0, .int 0]))] s.heap.size = A at hD hZ ⊢
  have hA : ∀ q : Nat, s.heap.size ≤ q → A q := fun q h => by rw [← hAe]; exact Or.inr h
  have hS : va_S A s.heap s.heap [] := va_S.rf
  have hP : va_P D vwCl [(rv, .inr (4, [.ref td, .ref br, .ref sh, .ref ke, .ref tt, .int lg, .int mi])), (br, .inr (0, [.int 0, .ref a0, .int 0])), (sh, .inr (0, [.int 0, .ref a0, .int 0])), (ke, .inr (0, [.int 0, .ref a0, .int 0]))] s.heap := hP
  have hl := lv_entry ([.ref rv]) (n := 3) (Nat.le_of_ble_eq_true rfl)
  rw [lg_entry_eq]
  generalize (lg_sl ([.ref rv]) ++ List.replicate (3 - (lg_sl ([.ref rv])).length) Slot.unset).toArray = ls at hl ⊢
  have hl : lv_has ls 3 [(0, .ref rv)] := hl
  refine lv_iconst (v := 0) hx hb dX3_bringAll_0 (by decide) ?_
  refine lv_istore_n (lv' := [(1, .int 0), (0, .ref rv)]) hx hb dX3_bringAll_1 rfl hl (by decide) rfl (fun ls hl => ?_)
  refine lv_iload_n hx hb dX3_bringAll_2 rfl (lv_at hl 0 rfl) ?_
  refine lv_aload_n hx hb dX3_bringAll_3 rfl (lv_at hl 1 rfl) ?_
  refine va_get (D := D) (ci := 4) (v := .ref sh) (C := RX3) (T := TX3) (N := 7) hx hb hts im_X3_bringAll_X3 hown hE.1 hP 0 rfl rfl 2 (by decide) (hts (.fieldLink RX3 25 "RiverBridges$River" "ships" "Ljava/util/ArrayList;") (by decide +kernel)) (fun _ h9 => h9) rfl dX3_bringAll_4 ?_
  refine ss_calli (ws := [(rv, .inr (4, [.ref td, .ref br, .ref sh, .ref ke, .ref tt, .int lg, .int mi])), (br, .inr (0, [.int 0, .ref a0, .int 0])), (sh, .inr (0, [.int 0, .ref a0, .int 0])), (ke, .inr (0, [.int 0, .ref a0, .int 0]))]) (wc := [(sh, .inr (0, [.int 0, .ref a0, .int 0]))]) (wr := [(rv, .inr (4, [.ref td, .ref br, .ref sh, .ref ke, .ref tt, .int lg, .int mi])), (br, .inr (0, [.int 0, .ref a0, .int 0])), (ke, .inr (0, [.int 0, .ref a0, .int 0]))]) [2] [0, 1, 3] (va_runV (As := []) (rest := [.int 0]) ⟨hx, hb, hml, hown, hts⟩ (c_AL_size l D cI cZ cB cO cJ a0 s.heap.size sh a0 0 0) (cwV 0 hts gX3_bringAll_Jx4a65c_size_8abf5 rfl rfl rfl (by decide +kernel) ⟨Nat.le_of_ble_eq_true rfl, Nat.le_of_ble_eq_true rfl⟩) (preV_std (wc := [(sh, .inr (0, [.int 0, .ref a0, .int 0]))]) [2] hE hZ hA hS hP hD rfl (by decide) (fun h9 => va_recv hE.1 h9 (ci := 0) (q0 := 0) rfl rfl)) rfl rfl hl.1 rfl (lv_room (Nat.le_of_ble_eq_true rfl)) dX3_bringAll_7 ⟨Nat.le_of_ble_eq_true rfl, Nat.le_of_ble_eq_true rfl⟩) hP hD hS hA rfl rfl (by decide) (by decide) (fun r1 u H locs hw hP hD hS => ?_)
  try dsimp only at hw
  subst hw
  have hP : va_P D vwCl [(rv, .inr (4, [.ref td, .ref br, .ref sh, .ref ke, .ref tt, .int lg, .int mi])), (br, .inr (0, [.int 0, .ref a0, .int 0])), (ke, .inr (0, [.int 0, .ref a0, .int 0])), (sh, .inr (0, [.int 0, .ref a0, .int 0]))] H := hP
  have hD : va_D A [(rv, .inr (4, [.ref td, .ref br, .ref sh, .ref ke, .ref tt, .int lg, .int mi])), (br, .inr (0, [.int 0, .ref a0, .int 0])), (ke, .inr (0, [.int 0, .ref a0, .int 0])), (sh, .inr (0, [.int 0, .ref a0, .int 0]))] := hD
  refine lv_icmp_ge (tgt := 47) hx hb dX3_bringAll_10 (by decide) (fun _ => ?_) (fun c9 => absurd (by decide) c9)
  refine lv_iconst (v := 0) hx hb dX3_bringAll_47 (by decide) ?_
  refine lv_istore_n (lv' := [(1, .int 0), (0, .ref rv)]) hx hb dX3_bringAll_48 rfl hl (by decide) rfl (fun ls hl => ?_)
  refine lv_iload_n hx hb dX3_bringAll_49 rfl (lv_at hl 0 rfl) ?_
  refine lv_aload_n hx hb dX3_bringAll_50 rfl (lv_at hl 1 rfl) ?_
  refine va_get (D := D) (ci := 4) (v := .ref ke) (C := RX3) (T := TX3) (N := 7) hx hb hts im_X3_bringAll_X3 hown hE.1 hP 0 rfl rfl 3 (by decide) (hts (.fieldLink RX3 28 "RiverBridges$River" "keepers" "Ljava/util/ArrayList;") (by decide +kernel)) (fun _ h9 => h9) rfl dX3_bringAll_51 ?_
  refine ss_calli (ws := [(rv, .inr (4, [.ref td, .ref br, .ref sh, .ref ke, .ref tt, .int lg, .int mi])), (br, .inr (0, [.int 0, .ref a0, .int 0])), (ke, .inr (0, [.int 0, .ref a0, .int 0])), (sh, .inr (0, [.int 0, .ref a0, .int 0]))]) (wc := [(ke, .inr (0, [.int 0, .ref a0, .int 0]))]) (wr := [(rv, .inr (4, [.ref td, .ref br, .ref sh, .ref ke, .ref tt, .int lg, .int mi])), (br, .inr (0, [.int 0, .ref a0, .int 0])), (sh, .inr (0, [.int 0, .ref a0, .int 0]))]) [2] [0, 1, 3] (va_runV (As := []) (rest := [.int 0]) ⟨hx, hb, hml, hown, hts⟩ (c_AL_size l D cI cZ cB cO cJ a0 H.size ke a0 0 0) (cwV 0 hts gX3_bringAll_Jx4a65c_size_8abf5 rfl rfl rfl (by decide +kernel) ⟨Nat.le_of_ble_eq_true rfl, Nat.le_of_ble_eq_true rfl⟩) (preV_std (wc := [(ke, .inr (0, [.int 0, .ref a0, .int 0]))]) [2] hE hZ hA hS hP hD rfl (by decide) (fun h9 => va_recv hE.1 h9 (ci := 0) (q0 := 0) rfl rfl)) rfl rfl hl.1 rfl (lv_room (Nat.le_of_ble_eq_true rfl)) dX3_bringAll_54 ⟨Nat.le_of_ble_eq_true rfl, Nat.le_of_ble_eq_true rfl⟩) hP hD hS hA rfl rfl (by decide) (by decide) (fun r2 u H locs hw hP hD hS => ?_)
  try dsimp only at hw
  subst hw
  have hP : va_P D vwCl [(rv, .inr (4, [.ref td, .ref br, .ref sh, .ref ke, .ref tt, .int lg, .int mi])), (br, .inr (0, [.int 0, .ref a0, .int 0])), (sh, .inr (0, [.int 0, .ref a0, .int 0])), (ke, .inr (0, [.int 0, .ref a0, .int 0]))] H := hP
  have hD : va_D A [(rv, .inr (4, [.ref td, .ref br, .ref sh, .ref ke, .ref tt, .int lg, .int mi])), (br, .inr (0, [.int 0, .ref a0, .int 0])), (sh, .inr (0, [.int 0, .ref a0, .int 0])), (ke, .inr (0, [.int 0, .ref a0, .int 0]))] := hD
  refine lv_icmp_ge (tgt := 84) hx hb dX3_bringAll_57 (by decide) (fun _ => ?_) (fun c9 => absurd (by decide) c9)
  refine lv_iconst (v := 0) hx hb dX3_bringAll_84 (by decide) ?_
  refine lv_istore_n (lv' := [(1, .int 0), (0, .ref rv)]) hx hb dX3_bringAll_85 rfl hl (by decide) rfl (fun ls hl => ?_)
  refine lv_iload_n hx hb dX3_bringAll_86 rfl (lv_at hl 0 rfl) ?_
  refine lv_aload_n hx hb dX3_bringAll_87 rfl (lv_at hl 1 rfl) ?_
  refine va_get (D := D) (ci := 4) (v := .ref br) (C := RX3) (T := TX3) (N := 7) hx hb hts im_X3_bringAll_X3 hown hE.1 hP 0 rfl rfl 1 (by decide) (hts (.fieldLink RX3 21 "RiverBridges$River" "bridges" "Ljava/util/ArrayList;") (by decide +kernel)) (fun _ h9 => h9) rfl dX3_bringAll_88 ?_
  refine ss_calli (ws := [(rv, .inr (4, [.ref td, .ref br, .ref sh, .ref ke, .ref tt, .int lg, .int mi])), (br, .inr (0, [.int 0, .ref a0, .int 0])), (sh, .inr (0, [.int 0, .ref a0, .int 0])), (ke, .inr (0, [.int 0, .ref a0, .int 0]))]) (wc := [(br, .inr (0, [.int 0, .ref a0, .int 0]))]) (wr := [(rv, .inr (4, [.ref td, .ref br, .ref sh, .ref ke, .ref tt, .int lg, .int mi])), (sh, .inr (0, [.int 0, .ref a0, .int 0])), (ke, .inr (0, [.int 0, .ref a0, .int 0]))]) [1] [0, 2, 3] (va_runV (As := []) (rest := [.int 0]) ⟨hx, hb, hml, hown, hts⟩ (c_AL_size l D cI cZ cB cO cJ a0 H.size br a0 0 0) (cwV 0 hts gX3_bringAll_Jx4a65c_size_8abf5 rfl rfl rfl (by decide +kernel) ⟨Nat.le_of_ble_eq_true rfl, Nat.le_of_ble_eq_true rfl⟩) (preV_std (wc := [(br, .inr (0, [.int 0, .ref a0, .int 0]))]) [1] hE hZ hA hS hP hD rfl (by decide) (fun h9 => va_recv hE.1 h9 (ci := 0) (q0 := 0) rfl rfl)) rfl rfl hl.1 rfl (lv_room (Nat.le_of_ble_eq_true rfl)) dX3_bringAll_91 ⟨Nat.le_of_ble_eq_true rfl, Nat.le_of_ble_eq_true rfl⟩) hP hD hS hA rfl rfl (by decide) (by decide) (fun r3 u H locs hw hP hD hS => ?_)
  try dsimp only at hw
  subst hw
  have hP : va_P D vwCl [(rv, .inr (4, [.ref td, .ref br, .ref sh, .ref ke, .ref tt, .int lg, .int mi])), (sh, .inr (0, [.int 0, .ref a0, .int 0])), (ke, .inr (0, [.int 0, .ref a0, .int 0])), (br, .inr (0, [.int 0, .ref a0, .int 0]))] H := hP
  have hD : va_D A [(rv, .inr (4, [.ref td, .ref br, .ref sh, .ref ke, .ref tt, .int lg, .int mi])), (sh, .inr (0, [.int 0, .ref a0, .int 0])), (ke, .inr (0, [.int 0, .ref a0, .int 0])), (br, .inr (0, [.int 0, .ref a0, .int 0]))] := hD
  refine lv_icmp_ge (tgt := 121) hx hb dX3_bringAll_94 (by decide) (fun _ => ?_) (fun c9 => absurd (by decide) c9)
  have hP9 := hP.sub (ws' := [(rv, .inr (4, [.ref td, .ref br, .ref sh, .ref ke, .ref tt, .int lg, .int mi])), (br, .inr (0, [.int 0, .ref a0, .int 0])), (sh, .inr (0, [.int 0, .ref a0, .int 0])), (ke, .inr (0, [.int 0, .ref a0, .int 0]))]) [0, 3, 1, 2] rfl
  have hD9 := hD.sub (ws' := [(rv, .inr (4, [.ref td, .ref br, .ref sh, .ref ke, .ref tt, .int lg, .int mi])), (br, .inr (0, [.int 0, .ref a0, .int 0])), (sh, .inr (0, [.int 0, .ref a0, .int 0])), (ke, .inr (0, [.int 0, .ref a0, .int 0]))]) [0, 3, 1, 2] (by decide) rfl
  exact ss_vret () hx hb hr hlocks hP9 hD9 hS (trivial) (Nat.le_of_ble_eq_true rfl) (Nat.le_of_ble_eq_true rfl) dX3_bringAll_121

theorem im_X3_shipsAllThrough_X3 : ∀ w ∈ wsX30, w ∈ wsX3_shipsAllThrough := fun _ h => List.mem_cons_of_mem _ (List.mem_append_left _ (List.mem_append_left _ (List.mem_append_right _ h)))
set_option maxHeartbeats 400000 in
set_option maxRecDepth 100000 in
theorem c_shipsAll (l : Launch) (D : va_G) (cI cZ cB cO cJ : ClassId) (a0 : Nat) (sz : Nat) (rv td br sh ke tt : Nat) (lg mi : Int32)  : Met l yX3_shipsAllThrough wsX3_shipsAllThrough ({ frames := 1, cells := 0, slots := 0, locals := 20 }) (Pcs D cI cZ cB cO cJ a0 [.ref rv] [(rv, .inr (4, [.ref td, .ref br, .ref sh, .ref ke, .ref tt, .int lg, .int mi])), (sh, .inr (0, [.int 0, .ref a0, .int 0]))] sz) (va_Qi (fun (r : Int32) (u : Unit) => r = 0) (fun (u : Unit) t => va_P D vwCl [(rv, .inr (4, [.ref td, .ref br, .ref sh, .ref ke, .ref tt, .int lg, .int mi])), (sh, .inr (0, [.int 0, .ref a0, .int 0]))] t.heap ∧ va_D (va_A [(rv, .inr (4, [.ref td, .ref br, .ref sh, .ref ke, .ref tt, .int lg, .int mi])), (sh, .inr (0, [.int 0, .ref a0, .int 0]))] sz) [(rv, .inr (4, [.ref td, .ref br, .ref sh, .ref ke, .ref tt, .int lg, .int mi])), (sh, .inr (0, [.int 0, .ref a0, .int 0]))]) (va_A [(rv, .inr (4, [.ref td, .ref br, .ref sh, .ref ke, .ref tt, .int lg, .int mi])), (sh, .inr (0, [.int 0, .ref a0, .int 0]))] sz)) 0 0 (va_A [(rv, .inr (4, [.ref td, .ref br, .ref sh, .ref ke, .ref tt, .int lg, .int mi])), (sh, .inr (0, [.int 0, .ref a0, .int 0]))] sz) := by
  refine Met.ofW (cc := cX3_shipsAllThrough) (maxL := 3) (ret := (some .int)) (by decide) rfl ?_
  intro p e s m args below meth c s₁ B hml hv
  obtain ⟨rfl, hsz, hP, hE, hD0, hZ⟩ := hv
  have hx := B.exec
  have hb := B.bytes
  have hr := B.returns
  have hts := atoms_spec (ws := wsX3_shipsAllThrough) B.pre
  have hown : s.vm.findClass RX3 = some m.cls := findClass_of_methodNamed B.named
  have hlocks := B.notSynchronized
  have hin := (name_of_methodNamed B.named B.method).1
  subst hsz
  have hD := hD0.self (sz := s.heap.size)
  generalize hAe : va_A [(rv, .inr (4, [.ref td, .ref br, .ref sh, .ref ke, .ref tt, .int lg, .int mi])), (sh, .inr (0, [.int 0, .ref a0, .int 0]))] s.heap.size = A at hD hZ ⊢
  have hA : ∀ q : Nat, s.heap.size ≤ q → A q := fun q h => by rw [← hAe]; exact Or.inr h
  have hS : va_S A s.heap s.heap [] := va_S.rf
  have hP : va_P D vwCl [(rv, .inr (4, [.ref td, .ref br, .ref sh, .ref ke, .ref tt, .int lg, .int mi])), (sh, .inr (0, [.int 0, .ref a0, .int 0]))] s.heap := hP
  have hl := lv_entry ([.ref rv]) (n := 3) (Nat.le_of_ble_eq_true rfl)
  rw [lg_entry_eq]
  generalize (lg_sl ([.ref rv]) ++ List.replicate (3 - (lg_sl ([.ref rv])).length) Slot.unset).toArray = ls at hl ⊢
  have hl : lv_has ls 3 [(0, .ref rv)] := hl
  refine lv_iconst (v := 0) hx hb dX3_shipsAllThrough_0 (by decide) ?_
  refine lv_istore_n (lv' := [(1, .int 0), (0, .ref rv)]) hx hb dX3_shipsAllThrough_1 rfl hl (by decide) rfl (fun ls hl => ?_)
  refine lv_iconst (v := 0) hx hb dX3_shipsAllThrough_2 (by decide) ?_
  refine lv_istore_n (lv' := [(2, .int 0), (1, .int 0), (0, .ref rv)]) hx hb dX3_shipsAllThrough_3 rfl hl (by decide) rfl (fun ls hl => ?_)
  refine lv_iload_n hx hb dX3_shipsAllThrough_4 rfl (lv_at hl 0 rfl) ?_
  refine lv_aload_n hx hb dX3_shipsAllThrough_5 rfl (lv_at hl 2 rfl) ?_
  refine va_get (D := D) (ci := 4) (v := .ref sh) (C := RX3) (T := TX3) (N := 7) hx hb hts im_X3_shipsAllThrough_X3 hown hE.1 hP 0 rfl rfl 2 (by decide) (hts (.fieldLink RX3 25 "RiverBridges$River" "ships" "Ljava/util/ArrayList;") (by decide +kernel)) (fun _ h9 => h9) rfl dX3_shipsAllThrough_6 ?_
  refine ss_calli (ws := [(rv, .inr (4, [.ref td, .ref br, .ref sh, .ref ke, .ref tt, .int lg, .int mi])), (sh, .inr (0, [.int 0, .ref a0, .int 0]))]) (wc := [(sh, .inr (0, [.int 0, .ref a0, .int 0]))]) (wr := [(rv, .inr (4, [.ref td, .ref br, .ref sh, .ref ke, .ref tt, .int lg, .int mi]))]) [1] [0] (va_runV (As := []) (rest := [.int 0]) ⟨hx, hb, hml, hown, hts⟩ (c_AL_size l D cI cZ cB cO cJ a0 s.heap.size sh a0 0 0) (cwV 0 hts gX3_shipsAllThrough_Jx4a65c_size_8abf5 rfl rfl rfl (by decide +kernel) ⟨Nat.le_of_ble_eq_true rfl, Nat.le_of_ble_eq_true rfl⟩) (preV_std (wc := [(sh, .inr (0, [.int 0, .ref a0, .int 0]))]) [1] hE hZ hA hS hP hD rfl (by decide) (fun h9 => va_recv hE.1 h9 (ci := 0) (q0 := 0) rfl rfl)) rfl rfl hl.1 rfl (lv_room (Nat.le_of_ble_eq_true rfl)) dX3_shipsAllThrough_9 ⟨Nat.le_of_ble_eq_true rfl, Nat.le_of_ble_eq_true rfl⟩) hP hD hS hA rfl rfl (by decide) (by decide) (fun r1 u H locs hw hP hD hS => ?_)
  try dsimp only at hw
  subst hw
  have hP : va_P D vwCl [(rv, .inr (4, [.ref td, .ref br, .ref sh, .ref ke, .ref tt, .int lg, .int mi])), (sh, .inr (0, [.int 0, .ref a0, .int 0]))] H := hP
  have hD : va_D A [(rv, .inr (4, [.ref td, .ref br, .ref sh, .ref ke, .ref tt, .int lg, .int mi])), (sh, .inr (0, [.int 0, .ref a0, .int 0]))] := hD
  refine lv_icmp_ge (tgt := 47) hx hb dX3_shipsAllThrough_12 (by decide) (fun _ => ?_) (fun c9 => absurd (by decide) c9)
  refine lv_iload_n hx hb dX3_shipsAllThrough_47 rfl (lv_at hl 1 rfl) ?_
  have hP9 := hP.sub (ws' := [(rv, .inr (4, [.ref td, .ref br, .ref sh, .ref ke, .ref tt, .int lg, .int mi])), (sh, .inr (0, [.int 0, .ref a0, .int 0]))]) [0, 1] rfl
  have hD9 := hD.sub (ws' := [(rv, .inr (4, [.ref td, .ref br, .ref sh, .ref ke, .ref tt, .int lg, .int mi])), (sh, .inr (0, [.int 0, .ref a0, .int 0]))]) [0, 1] (by decide) rfl
  exact ss_iret () hx hb hr hlocks hP9 hD9 hS (rfl) (Nat.le_of_ble_eq_true rfl) (Nat.le_of_ble_eq_true rfl) dX3_shipsAllThrough_48

theorem im_X3_longestWait_X3 : ∀ w ∈ wsX30, w ∈ wsX3_longestWait := fun _ h => List.mem_cons_of_mem _ (List.mem_append_left _ (List.mem_append_left _ (List.mem_append_right _ h)))
set_option maxHeartbeats 400000 in
set_option maxRecDepth 100000 in
theorem c_longest (l : Launch) (D : va_G) (cI cZ cB cO cJ : ClassId) (a0 : Nat) (sz : Nat) (rv td br sh ke tt : Nat) (lg mi : Int32)  : Met l yX3_longestWait wsX3_longestWait ({ frames := 1, cells := 0, slots := 0, locals := 20 }) (Pcs D cI cZ cB cO cJ a0 [.ref rv] [(rv, .inr (4, [.ref td, .ref br, .ref sh, .ref ke, .ref tt, .int lg, .int mi])), (sh, .inr (0, [.int 0, .ref a0, .int 0]))] sz) (va_Qi (fun (r : Int32) (u : Unit) => r = 0) (fun (u : Unit) t => va_P D vwCl [(rv, .inr (4, [.ref td, .ref br, .ref sh, .ref ke, .ref tt, .int lg, .int mi])), (sh, .inr (0, [.int 0, .ref a0, .int 0]))] t.heap ∧ va_D (va_A [(rv, .inr (4, [.ref td, .ref br, .ref sh, .ref ke, .ref tt, .int lg, .int mi])), (sh, .inr (0, [.int 0, .ref a0, .int 0]))] sz) [(rv, .inr (4, [.ref td, .ref br, .ref sh, .ref ke, .ref tt, .int lg, .int mi])), (sh, .inr (0, [.int 0, .ref a0, .int 0]))]) (va_A [(rv, .inr (4, [.ref td, .ref br, .ref sh, .ref ke, .ref tt, .int lg, .int mi])), (sh, .inr (0, [.int 0, .ref a0, .int 0]))] sz)) 0 0 (va_A [(rv, .inr (4, [.ref td, .ref br, .ref sh, .ref ke, .ref tt, .int lg, .int mi])), (sh, .inr (0, [.int 0, .ref a0, .int 0]))] sz) := by
  refine Met.ofW (cc := cX3_longestWait) (maxL := 3) (ret := (some .int)) (by decide) rfl ?_
  intro p e s m args below meth c s₁ B hml hv
  obtain ⟨rfl, hsz, hP, hE, hD0, hZ⟩ := hv
  have hx := B.exec
  have hb := B.bytes
  have hr := B.returns
  have hts := atoms_spec (ws := wsX3_longestWait) B.pre
  have hown : s.vm.findClass RX3 = some m.cls := findClass_of_methodNamed B.named
  have hlocks := B.notSynchronized
  have hin := (name_of_methodNamed B.named B.method).1
  subst hsz
  have hD := hD0.self (sz := s.heap.size)
  generalize hAe : va_A [(rv, .inr (4, [.ref td, .ref br, .ref sh, .ref ke, .ref tt, .int lg, .int mi])), (sh, .inr (0, [.int 0, .ref a0, .int 0]))] s.heap.size = A at hD hZ ⊢
  have hA : ∀ q : Nat, s.heap.size ≤ q → A q := fun q h => by rw [← hAe]; exact Or.inr h
  have hS : va_S A s.heap s.heap [] := va_S.rf
  have hP : va_P D vwCl [(rv, .inr (4, [.ref td, .ref br, .ref sh, .ref ke, .ref tt, .int lg, .int mi])), (sh, .inr (0, [.int 0, .ref a0, .int 0]))] s.heap := hP
  have hl := lv_entry ([.ref rv]) (n := 3) (Nat.le_of_ble_eq_true rfl)
  rw [lg_entry_eq]
  generalize (lg_sl ([.ref rv]) ++ List.replicate (3 - (lg_sl ([.ref rv])).length) Slot.unset).toArray = ls at hl ⊢
  have hl : lv_has ls 3 [(0, .ref rv)] := hl
  refine lv_iconst (v := 0) hx hb dX3_longestWait_0 (by decide) ?_
  refine lv_istore_n (lv' := [(1, .int 0), (0, .ref rv)]) hx hb dX3_longestWait_1 rfl hl (by decide) rfl (fun ls hl => ?_)
  refine lv_iconst (v := 0) hx hb dX3_longestWait_2 (by decide) ?_
  refine lv_istore_n (lv' := [(2, .int 0), (1, .int 0), (0, .ref rv)]) hx hb dX3_longestWait_3 rfl hl (by decide) rfl (fun ls hl => ?_)
  refine lv_iload_n hx hb dX3_longestWait_4 rfl (lv_at hl 0 rfl) ?_
  refine lv_aload_n hx hb dX3_longestWait_5 rfl (lv_at hl 2 rfl) ?_
  refine va_get (D := D) (ci := 4) (v := .ref sh) (C := RX3) (T := TX3) (N := 7) hx hb hts im_X3_longestWait_X3 hown hE.1 hP 0 rfl rfl 2 (by decide) (hts (.fieldLink RX3 25 "RiverBridges$River" "ships" "Ljava/util/ArrayList;") (by decide +kernel)) (fun _ h9 => h9) rfl dX3_longestWait_6 ?_
  refine ss_calli (ws := [(rv, .inr (4, [.ref td, .ref br, .ref sh, .ref ke, .ref tt, .int lg, .int mi])), (sh, .inr (0, [.int 0, .ref a0, .int 0]))]) (wc := [(sh, .inr (0, [.int 0, .ref a0, .int 0]))]) (wr := [(rv, .inr (4, [.ref td, .ref br, .ref sh, .ref ke, .ref tt, .int lg, .int mi]))]) [1] [0] (va_runV (As := []) (rest := [.int 0]) ⟨hx, hb, hml, hown, hts⟩ (c_AL_size l D cI cZ cB cO cJ a0 s.heap.size sh a0 0 0) (cwV 0 hts gX3_longestWait_Jx4a65c_size_8abf5 rfl rfl rfl (by decide +kernel) ⟨Nat.le_of_ble_eq_true rfl, Nat.le_of_ble_eq_true rfl⟩) (preV_std (wc := [(sh, .inr (0, [.int 0, .ref a0, .int 0]))]) [1] hE hZ hA hS hP hD rfl (by decide) (fun h9 => va_recv hE.1 h9 (ci := 0) (q0 := 0) rfl rfl)) rfl rfl hl.1 rfl (lv_room (Nat.le_of_ble_eq_true rfl)) dX3_longestWait_9 ⟨Nat.le_of_ble_eq_true rfl, Nat.le_of_ble_eq_true rfl⟩) hP hD hS hA rfl rfl (by decide) (by decide) (fun r1 u H locs hw hP hD hS => ?_)
  try dsimp only at hw
  subst hw
  have hP : va_P D vwCl [(rv, .inr (4, [.ref td, .ref br, .ref sh, .ref ke, .ref tt, .int lg, .int mi])), (sh, .inr (0, [.int 0, .ref a0, .int 0]))] H := hP
  have hD : va_D A [(rv, .inr (4, [.ref td, .ref br, .ref sh, .ref ke, .ref tt, .int lg, .int mi])), (sh, .inr (0, [.int 0, .ref a0, .int 0]))] := hD
  refine lv_icmp_ge (tgt := 40) hx hb dX3_longestWait_12 (by decide) (fun _ => ?_) (fun c9 => absurd (by decide) c9)
  refine lv_iload_n hx hb dX3_longestWait_40 rfl (lv_at hl 1 rfl) ?_
  have hP9 := hP.sub (ws' := [(rv, .inr (4, [.ref td, .ref br, .ref sh, .ref ke, .ref tt, .int lg, .int mi])), (sh, .inr (0, [.int 0, .ref a0, .int 0]))]) [0, 1] rfl
  have hD9 := hD.sub (ws' := [(rv, .inr (4, [.ref td, .ref br, .ref sh, .ref ke, .ref tt, .int lg, .int mi])), (sh, .inr (0, [.int 0, .ref a0, .int 0]))]) [0, 1] (by decide) rfl
  exact ss_iret () hx hb hr hlocks hP9 hD9 hS (rfl) (Nat.le_of_ble_eq_true rfl) (Nat.le_of_ble_eq_true rfl) dX3_longestWait_41

theorem im_X3_doMinute_X3 : ∀ w ∈ wsX30, w ∈ wsX3_doMinute := fun _ h => List.mem_cons_of_mem _ (List.mem_append_left _ (List.mem_append_left _ (List.mem_append_left _ (List.mem_append_left _ (List.mem_append_left _ (List.mem_append_left _ (List.mem_append_right _ h)))))))
set_option maxHeartbeats 400000 in
set_option maxRecDepth 100000 in
theorem c_doMinute (l : Launch) (D : va_G) (cI cZ cB cO cJ : ClassId) (a0 : Nat) (sz : Nat) (rv td br sh ke tt : Nat) (lg : Int32) (i : Nat)  : Met l yX3_doMinute wsX3_doMinute ({ frames := 2, cells := 0, slots := 0, locals := 42 }) (Pcs D cI cZ cB cO cJ a0 [.ref rv] [(rv, .inr (4, [.ref td, .ref br, .ref sh, .ref ke, .ref tt, .int lg, .int (nI i)])), (br, .inr (0, [.int 0, .ref a0, .int 0])), (sh, .inr (0, [.int 0, .ref a0, .int 0])), (ke, .inr (0, [.int 0, .ref a0, .int 0]))] sz) (va_Qv (fun (u : Unit) => True) (fun (u : Unit) t => va_P D vwCl [(rv, .inr (4, [.ref td, .ref br, .ref sh, .ref ke, .ref tt, .int lg, .int (nI (i + 1))])), (br, .inr (0, [.int 0, .ref a0, .int 0])), (sh, .inr (0, [.int 0, .ref a0, .int 0])), (ke, .inr (0, [.int 0, .ref a0, .int 0]))] t.heap ∧ va_D (va_A [(rv, .inr (4, [.ref td, .ref br, .ref sh, .ref ke, .ref tt, .int lg, .int (nI i)])), (br, .inr (0, [.int 0, .ref a0, .int 0])), (sh, .inr (0, [.int 0, .ref a0, .int 0])), (ke, .inr (0, [.int 0, .ref a0, .int 0]))] sz) [(rv, .inr (4, [.ref td, .ref br, .ref sh, .ref ke, .ref tt, .int lg, .int (nI (i + 1))])), (br, .inr (0, [.int 0, .ref a0, .int 0])), (sh, .inr (0, [.int 0, .ref a0, .int 0])), (ke, .inr (0, [.int 0, .ref a0, .int 0]))]) (va_A [(rv, .inr (4, [.ref td, .ref br, .ref sh, .ref ke, .ref tt, .int lg, .int (nI i)])), (br, .inr (0, [.int 0, .ref a0, .int 0])), (sh, .inr (0, [.int 0, .ref a0, .int 0])), (ke, .inr (0, [.int 0, .ref a0, .int 0]))] sz)) 0 0 (va_A [(rv, .inr (4, [.ref td, .ref br, .ref sh, .ref ke, .ref tt, .int lg, .int (nI i)])), (br, .inr (0, [.int 0, .ref a0, .int 0])), (sh, .inr (0, [.int 0, .ref a0, .int 0])), (ke, .inr (0, [.int 0, .ref a0, .int 0]))] sz) := by
  refine Met.ofW (cc := cX3_doMinute) (maxL := 2) (ret := none) (by decide) rfl ?_
  intro p e s m args below meth c s₁ B hml hv
  obtain ⟨rfl, hsz, hP, hE, hD0, hZ⟩ := hv
  have hx := B.exec
  have hb := B.bytes
  have hr := B.returns
  have hts := atoms_spec (ws := wsX3_doMinute) B.pre
  have hown : s.vm.findClass RX3 = some m.cls := findClass_of_methodNamed B.named
  have hlocks := B.notSynchronized
  have hin := (name_of_methodNamed B.named B.method).1
  subst hsz
  have hD := hD0.self (sz := s.heap.size)
  generalize hAe : va_A [(rv, .inr (4, [.ref td, .ref br, .ref sh, .ref ke, .ref tt, .int lg, .int (nI i)])), (br, .inr (0, [.int 0, .ref a0, .int 0])), (sh, .inr (0, [.int 0, .ref a0, .int 0])), (ke, .inr (0, [.int 0, .ref a0, .int 0]))] s.heap.size = A at hD hZ ⊢
  have hA : ∀ q : Nat, s.heap.size ≤ q → A q := fun q h => by rw [← hAe]; exact Or.inr h
  have hS : va_S A s.heap s.heap [] := va_S.rf
  have hP : va_P D vwCl [(rv, .inr (4, [.ref td, .ref br, .ref sh, .ref ke, .ref tt, .int lg, .int (nI i)])), (br, .inr (0, [.int 0, .ref a0, .int 0])), (sh, .inr (0, [.int 0, .ref a0, .int 0])), (ke, .inr (0, [.int 0, .ref a0, .int 0]))] s.heap := hP
  have hl := lv_entry ([.ref rv]) (n := 2) (Nat.le_of_ble_eq_true rfl)
  rw [lg_entry_eq]
  generalize (lg_sl ([.ref rv]) ++ List.replicate (2 - (lg_sl ([.ref rv])).length) Slot.unset).toArray = ls at hl ⊢
  have hl : lv_has ls 2 [(0, .ref rv)] := hl
  refine lv_aload_n hx hb dX3_doMinute_0 rfl (lv_at hl 0 rfl) ?_
  refine ss_callv (ws := [(rv, .inr (4, [.ref td, .ref br, .ref sh, .ref ke, .ref tt, .int lg, .int (nI i)])), (br, .inr (0, [.int 0, .ref a0, .int 0])), (sh, .inr (0, [.int 0, .ref a0, .int 0])), (ke, .inr (0, [.int 0, .ref a0, .int 0]))]) (wc := [(rv, .inr (4, [.ref td, .ref br, .ref sh, .ref ke, .ref tt, .int lg, .int (nI i)])), (br, .inr (0, [.int 0, .ref a0, .int 0])), (sh, .inr (0, [.int 0, .ref a0, .int 0])), (ke, .inr (0, [.int 0, .ref a0, .int 0]))]) (wr := []) [0, 1, 2, 3] [] (va_runV (As := []) (rest := []) ⟨hx, hb, hml, hown, hts⟩ (c_bringAll l D cI cZ cB cO cJ a0 s.heap.size rv td br sh ke tt lg (nI i)) (cwV 0 hts gX3_doMinute_X3_bringAll rfl rfl rfl (by decide +kernel) ⟨Nat.le_of_ble_eq_true rfl, Nat.le_of_ble_eq_true rfl⟩) (preV_std (wc := [(rv, .inr (4, [.ref td, .ref br, .ref sh, .ref ke, .ref tt, .int lg, .int (nI i)])), (br, .inr (0, [.int 0, .ref a0, .int 0])), (sh, .inr (0, [.int 0, .ref a0, .int 0])), (ke, .inr (0, [.int 0, .ref a0, .int 0]))]) [0, 1, 2, 3] hE hZ hA hS hP hD rfl (by decide) (fun h9 => va_recv hE.1 h9 (ci := 4) (q0 := 0) rfl rfl)) rfl rfl hl.1 rfl (lv_room (Nat.le_of_ble_eq_true rfl)) dX3_doMinute_1 ⟨Nat.le_of_ble_eq_true rfl, Nat.le_of_ble_eq_true rfl⟩) hP hD hS hA rfl rfl (by decide) (by decide) (fun u H locs hw hP hD hS => ?_)
  try dsimp only at hw
  have hP : va_P D vwCl [(rv, .inr (4, [.ref td, .ref br, .ref sh, .ref ke, .ref tt, .int lg, .int (nI i)])), (br, .inr (0, [.int 0, .ref a0, .int 0])), (sh, .inr (0, [.int 0, .ref a0, .int 0])), (ke, .inr (0, [.int 0, .ref a0, .int 0]))] H := hP
  have hD : va_D A [(rv, .inr (4, [.ref td, .ref br, .ref sh, .ref ke, .ref tt, .int lg, .int (nI i)])), (br, .inr (0, [.int 0, .ref a0, .int 0])), (sh, .inr (0, [.int 0, .ref a0, .int 0])), (ke, .inr (0, [.int 0, .ref a0, .int 0]))] := hD
  refine lv_iconst (v := 0) hx hb dX3_doMinute_4 (by decide) ?_
  refine lv_istore_n (lv' := [(1, .int 0), (0, .ref rv)]) hx hb dX3_doMinute_5 rfl hl (by decide) rfl (fun ls hl => ?_)
  refine lv_iload_n hx hb dX3_doMinute_6 rfl (lv_at hl 0 rfl) ?_
  refine lv_aload_n hx hb dX3_doMinute_7 rfl (lv_at hl 1 rfl) ?_
  refine va_get (D := D) (ci := 4) (v := .ref br) (C := RX3) (T := TX3) (N := 7) hx hb hts im_X3_doMinute_X3 hown hE.1 hP 0 rfl rfl 1 (by decide) (hts (.fieldLink RX3 21 "RiverBridges$River" "bridges" "Ljava/util/ArrayList;") (by decide +kernel)) (fun _ h9 => h9) rfl dX3_doMinute_8 ?_
  refine ss_calli (ws := [(rv, .inr (4, [.ref td, .ref br, .ref sh, .ref ke, .ref tt, .int lg, .int (nI i)])), (br, .inr (0, [.int 0, .ref a0, .int 0])), (sh, .inr (0, [.int 0, .ref a0, .int 0])), (ke, .inr (0, [.int 0, .ref a0, .int 0]))]) (wc := [(br, .inr (0, [.int 0, .ref a0, .int 0]))]) (wr := [(rv, .inr (4, [.ref td, .ref br, .ref sh, .ref ke, .ref tt, .int lg, .int (nI i)])), (sh, .inr (0, [.int 0, .ref a0, .int 0])), (ke, .inr (0, [.int 0, .ref a0, .int 0]))]) [1] [0, 2, 3] (va_runV (As := []) (rest := [.int 0]) ⟨hx, hb, hml, hown, hts⟩ (c_AL_size l D cI cZ cB cO cJ a0 H.size br a0 0 0) (cwV 0 hts gX3_doMinute_Jx4a65c_size_8abf5 rfl rfl rfl (by decide +kernel) ⟨Nat.le_of_ble_eq_true rfl, Nat.le_of_ble_eq_true rfl⟩) (preV_std (wc := [(br, .inr (0, [.int 0, .ref a0, .int 0]))]) [1] hE hZ hA hS hP hD rfl (by decide) (fun h9 => va_recv hE.1 h9 (ci := 0) (q0 := 0) rfl rfl)) rfl rfl hl.1 rfl (lv_room (Nat.le_of_ble_eq_true rfl)) dX3_doMinute_11 ⟨Nat.le_of_ble_eq_true rfl, Nat.le_of_ble_eq_true rfl⟩) hP hD hS hA rfl rfl (by decide) (by decide) (fun r2 u H locs hw hP hD hS => ?_)
  try dsimp only at hw
  subst hw
  have hP : va_P D vwCl [(rv, .inr (4, [.ref td, .ref br, .ref sh, .ref ke, .ref tt, .int lg, .int (nI i)])), (sh, .inr (0, [.int 0, .ref a0, .int 0])), (ke, .inr (0, [.int 0, .ref a0, .int 0])), (br, .inr (0, [.int 0, .ref a0, .int 0]))] H := hP
  have hD : va_D A [(rv, .inr (4, [.ref td, .ref br, .ref sh, .ref ke, .ref tt, .int lg, .int (nI i)])), (sh, .inr (0, [.int 0, .ref a0, .int 0])), (ke, .inr (0, [.int 0, .ref a0, .int 0])), (br, .inr (0, [.int 0, .ref a0, .int 0]))] := hD
  refine lv_icmp_ge (tgt := 28) hx hb dX3_doMinute_14 (by decide) (fun _ => ?_) (fun c9 => absurd (by decide) c9)
  refine lv_aload_n hx hb dX3_doMinute_28 rfl (lv_at hl 1 rfl) ?_
  refine ss_callv (ws := [(rv, .inr (4, [.ref td, .ref br, .ref sh, .ref ke, .ref tt, .int lg, .int (nI i)])), (sh, .inr (0, [.int 0, .ref a0, .int 0])), (ke, .inr (0, [.int 0, .ref a0, .int 0])), (br, .inr (0, [.int 0, .ref a0, .int 0]))]) (wc := [(rv, .inr (4, [.ref td, .ref br, .ref sh, .ref ke, .ref tt, .int lg, .int (nI i)])), (sh, .inr (0, [.int 0, .ref a0, .int 0]))]) (wr := [(ke, .inr (0, [.int 0, .ref a0, .int 0])), (br, .inr (0, [.int 0, .ref a0, .int 0]))]) [0, 1] [2, 3] (va_runV (As := []) (rest := []) ⟨hx, hb, hml, hown, hts⟩ (c_countWaits l D cI cZ cB cO cJ a0 H.size rv td br sh ke tt lg (nI i)) (cwV 0 hts gX3_doMinute_X3_countWaits rfl rfl rfl (by decide +kernel) ⟨Nat.le_of_ble_eq_true rfl, Nat.le_of_ble_eq_true rfl⟩) (preV_std (wc := [(rv, .inr (4, [.ref td, .ref br, .ref sh, .ref ke, .ref tt, .int lg, .int (nI i)])), (sh, .inr (0, [.int 0, .ref a0, .int 0]))]) [0, 1] hE hZ hA hS hP hD rfl (by decide) (fun h9 => va_recv hE.1 h9 (ci := 4) (q0 := 0) rfl rfl)) rfl rfl hl.1 rfl (lv_room (Nat.le_of_ble_eq_true rfl)) dX3_doMinute_29 ⟨Nat.le_of_ble_eq_true rfl, Nat.le_of_ble_eq_true rfl⟩) hP hD hS hA rfl rfl (by decide) (by decide) (fun u H locs hw hP hD hS => ?_)
  try dsimp only at hw
  have hP : va_P D vwCl [(ke, .inr (0, [.int 0, .ref a0, .int 0])), (br, .inr (0, [.int 0, .ref a0, .int 0])), (rv, .inr (4, [.ref td, .ref br, .ref sh, .ref ke, .ref tt, .int lg, .int (nI i)])), (sh, .inr (0, [.int 0, .ref a0, .int 0]))] H := hP
  have hD : va_D A [(ke, .inr (0, [.int 0, .ref a0, .int 0])), (br, .inr (0, [.int 0, .ref a0, .int 0])), (rv, .inr (4, [.ref td, .ref br, .ref sh, .ref ke, .ref tt, .int lg, .int (nI i)])), (sh, .inr (0, [.int 0, .ref a0, .int 0]))] := hD
  refine lv_iconst (v := 0) hx hb dX3_doMinute_32 (by decide) ?_
  refine lv_istore_n (lv' := [(1, .int 0), (0, .ref rv)]) hx hb dX3_doMinute_33 rfl hl (by decide) rfl (fun ls hl => ?_)
  refine lv_iload_n hx hb dX3_doMinute_34 rfl (lv_at hl 0 rfl) ?_
  refine lv_aload_n hx hb dX3_doMinute_35 rfl (lv_at hl 1 rfl) ?_
  refine va_get (D := D) (ci := 4) (v := .ref br) (C := RX3) (T := TX3) (N := 7) hx hb hts im_X3_doMinute_X3 hown hE.1 hP 2 rfl rfl 1 (by decide) (hts (.fieldLink RX3 21 "RiverBridges$River" "bridges" "Ljava/util/ArrayList;") (by decide +kernel)) (fun _ h9 => h9) rfl dX3_doMinute_36 ?_
  refine ss_calli (ws := [(ke, .inr (0, [.int 0, .ref a0, .int 0])), (br, .inr (0, [.int 0, .ref a0, .int 0])), (rv, .inr (4, [.ref td, .ref br, .ref sh, .ref ke, .ref tt, .int lg, .int (nI i)])), (sh, .inr (0, [.int 0, .ref a0, .int 0]))]) (wc := [(br, .inr (0, [.int 0, .ref a0, .int 0]))]) (wr := [(ke, .inr (0, [.int 0, .ref a0, .int 0])), (rv, .inr (4, [.ref td, .ref br, .ref sh, .ref ke, .ref tt, .int lg, .int (nI i)])), (sh, .inr (0, [.int 0, .ref a0, .int 0]))]) [1] [0, 2, 3] (va_runV (As := []) (rest := [.int 0]) ⟨hx, hb, hml, hown, hts⟩ (c_AL_size l D cI cZ cB cO cJ a0 H.size br a0 0 0) (cwV 0 hts gX3_doMinute_Jx4a65c_size_8abf5 rfl rfl rfl (by decide +kernel) ⟨Nat.le_of_ble_eq_true rfl, Nat.le_of_ble_eq_true rfl⟩) (preV_std (wc := [(br, .inr (0, [.int 0, .ref a0, .int 0]))]) [1] hE hZ hA hS hP hD rfl (by decide) (fun h9 => va_recv hE.1 h9 (ci := 0) (q0 := 0) rfl rfl)) rfl rfl hl.1 rfl (lv_room (Nat.le_of_ble_eq_true rfl)) dX3_doMinute_39 ⟨Nat.le_of_ble_eq_true rfl, Nat.le_of_ble_eq_true rfl⟩) hP hD hS hA rfl rfl (by decide) (by decide) (fun r4 u H locs hw hP hD hS => ?_)
  try dsimp only at hw
  subst hw
  have hP : va_P D vwCl [(ke, .inr (0, [.int 0, .ref a0, .int 0])), (rv, .inr (4, [.ref td, .ref br, .ref sh, .ref ke, .ref tt, .int lg, .int (nI i)])), (sh, .inr (0, [.int 0, .ref a0, .int 0])), (br, .inr (0, [.int 0, .ref a0, .int 0]))] H := hP
  have hD : va_D A [(ke, .inr (0, [.int 0, .ref a0, .int 0])), (rv, .inr (4, [.ref td, .ref br, .ref sh, .ref ke, .ref tt, .int lg, .int (nI i)])), (sh, .inr (0, [.int 0, .ref a0, .int 0])), (br, .inr (0, [.int 0, .ref a0, .int 0]))] := hD
  refine lv_icmp_ge (tgt := 56) hx hb dX3_doMinute_42 (by decide) (fun _ => ?_) (fun c9 => absurd (by decide) c9)
  refine lv_iconst (v := 0) hx hb dX3_doMinute_56 (by decide) ?_
  refine lv_istore_n (lv' := [(1, .int 0), (0, .ref rv)]) hx hb dX3_doMinute_57 rfl hl (by decide) rfl (fun ls hl => ?_)
  refine lv_iload_n hx hb dX3_doMinute_58 rfl (lv_at hl 0 rfl) ?_
  refine lv_aload_n hx hb dX3_doMinute_59 rfl (lv_at hl 1 rfl) ?_
  refine va_get (D := D) (ci := 4) (v := .ref ke) (C := RX3) (T := TX3) (N := 7) hx hb hts im_X3_doMinute_X3 hown hE.1 hP 1 rfl rfl 3 (by decide) (hts (.fieldLink RX3 28 "RiverBridges$River" "keepers" "Ljava/util/ArrayList;") (by decide +kernel)) (fun _ h9 => h9) rfl dX3_doMinute_60 ?_
  refine ss_calli (ws := [(ke, .inr (0, [.int 0, .ref a0, .int 0])), (rv, .inr (4, [.ref td, .ref br, .ref sh, .ref ke, .ref tt, .int lg, .int (nI i)])), (sh, .inr (0, [.int 0, .ref a0, .int 0])), (br, .inr (0, [.int 0, .ref a0, .int 0]))]) (wc := [(ke, .inr (0, [.int 0, .ref a0, .int 0]))]) (wr := [(rv, .inr (4, [.ref td, .ref br, .ref sh, .ref ke, .ref tt, .int lg, .int (nI i)])), (sh, .inr (0, [.int 0, .ref a0, .int 0])), (br, .inr (0, [.int 0, .ref a0, .int 0]))]) [0] [1, 2, 3] (va_runV (As := []) (rest := [.int 0]) ⟨hx, hb, hml, hown, hts⟩ (c_AL_size l D cI cZ cB cO cJ a0 H.size ke a0 0 0) (cwV 0 hts gX3_doMinute_Jx4a65c_size_8abf5 rfl rfl rfl (by decide +kernel) ⟨Nat.le_of_ble_eq_true rfl, Nat.le_of_ble_eq_true rfl⟩) (preV_std (wc := [(ke, .inr (0, [.int 0, .ref a0, .int 0]))]) [0] hE hZ hA hS hP hD rfl (by decide) (fun h9 => va_recv hE.1 h9 (ci := 0) (q0 := 0) rfl rfl)) rfl rfl hl.1 rfl (lv_room (Nat.le_of_ble_eq_true rfl)) dX3_doMinute_63 ⟨Nat.le_of_ble_eq_true rfl, Nat.le_of_ble_eq_true rfl⟩) hP hD hS hA rfl rfl (by decide) (by decide) (fun r5 u H locs hw hP hD hS => ?_)
  try dsimp only at hw
  subst hw
  have hP : va_P D vwCl [(rv, .inr (4, [.ref td, .ref br, .ref sh, .ref ke, .ref tt, .int lg, .int (nI i)])), (sh, .inr (0, [.int 0, .ref a0, .int 0])), (br, .inr (0, [.int 0, .ref a0, .int 0])), (ke, .inr (0, [.int 0, .ref a0, .int 0]))] H := hP
  have hD : va_D A [(rv, .inr (4, [.ref td, .ref br, .ref sh, .ref ke, .ref tt, .int lg, .int (nI i)])), (sh, .inr (0, [.int 0, .ref a0, .int 0])), (br, .inr (0, [.int 0, .ref a0, .int 0])), (ke, .inr (0, [.int 0, .ref a0, .int 0]))] := hD
  refine lv_icmp_ge (tgt := 90) hx hb dX3_doMinute_66 (by decide) (fun _ => ?_) (fun c9 => absurd (by decide) c9)
  refine lv_iconst (v := 0) hx hb dX3_doMinute_90 (by decide) ?_
  refine lv_istore_n (lv' := [(1, .int 0), (0, .ref rv)]) hx hb dX3_doMinute_91 rfl hl (by decide) rfl (fun ls hl => ?_)
  refine lv_iload_n hx hb dX3_doMinute_92 rfl (lv_at hl 0 rfl) ?_
  refine lv_aload_n hx hb dX3_doMinute_93 rfl (lv_at hl 1 rfl) ?_
  refine va_get (D := D) (ci := 4) (v := .ref br) (C := RX3) (T := TX3) (N := 7) hx hb hts im_X3_doMinute_X3 hown hE.1 hP 0 rfl rfl 1 (by decide) (hts (.fieldLink RX3 21 "RiverBridges$River" "bridges" "Ljava/util/ArrayList;") (by decide +kernel)) (fun _ h9 => h9) rfl dX3_doMinute_94 ?_
  refine ss_calli (ws := [(rv, .inr (4, [.ref td, .ref br, .ref sh, .ref ke, .ref tt, .int lg, .int (nI i)])), (sh, .inr (0, [.int 0, .ref a0, .int 0])), (br, .inr (0, [.int 0, .ref a0, .int 0])), (ke, .inr (0, [.int 0, .ref a0, .int 0]))]) (wc := [(br, .inr (0, [.int 0, .ref a0, .int 0]))]) (wr := [(rv, .inr (4, [.ref td, .ref br, .ref sh, .ref ke, .ref tt, .int lg, .int (nI i)])), (sh, .inr (0, [.int 0, .ref a0, .int 0])), (ke, .inr (0, [.int 0, .ref a0, .int 0]))]) [2] [0, 1, 3] (va_runV (As := []) (rest := [.int 0]) ⟨hx, hb, hml, hown, hts⟩ (c_AL_size l D cI cZ cB cO cJ a0 H.size br a0 0 0) (cwV 0 hts gX3_doMinute_Jx4a65c_size_8abf5 rfl rfl rfl (by decide +kernel) ⟨Nat.le_of_ble_eq_true rfl, Nat.le_of_ble_eq_true rfl⟩) (preV_std (wc := [(br, .inr (0, [.int 0, .ref a0, .int 0]))]) [2] hE hZ hA hS hP hD rfl (by decide) (fun h9 => va_recv hE.1 h9 (ci := 0) (q0 := 0) rfl rfl)) rfl rfl hl.1 rfl (lv_room (Nat.le_of_ble_eq_true rfl)) dX3_doMinute_97 ⟨Nat.le_of_ble_eq_true rfl, Nat.le_of_ble_eq_true rfl⟩) hP hD hS hA rfl rfl (by decide) (by decide) (fun r6 u H locs hw hP hD hS => ?_)
  try dsimp only at hw
  subst hw
  have hP : va_P D vwCl [(rv, .inr (4, [.ref td, .ref br, .ref sh, .ref ke, .ref tt, .int lg, .int (nI i)])), (sh, .inr (0, [.int 0, .ref a0, .int 0])), (ke, .inr (0, [.int 0, .ref a0, .int 0])), (br, .inr (0, [.int 0, .ref a0, .int 0]))] H := hP
  have hD : va_D A [(rv, .inr (4, [.ref td, .ref br, .ref sh, .ref ke, .ref tt, .int lg, .int (nI i)])), (sh, .inr (0, [.int 0, .ref a0, .int 0])), (ke, .inr (0, [.int 0, .ref a0, .int 0])), (br, .inr (0, [.int 0, .ref a0, .int 0]))] := hD
  refine lv_icmp_ge (tgt := 123) hx hb dX3_doMinute_100 (by decide) (fun _ => ?_) (fun c9 => absurd (by decide) c9)
  refine lv_aload_n hx hb dX3_doMinute_123 rfl (lv_at hl 1 rfl) ?_
  refine lv_dup hx hb dX3_doMinute_124 rfl ?_
  refine va_get (D := D) (ci := 4) (v := .int (nI i)) (C := RX3) (T := TX3) (N := 7) hx hb hts im_X3_doMinute_X3 hown hE.1 hP 0 rfl rfl 6 (by decide) (hts (.fieldLink RX3 42 "RiverBridges$River" "minute" "I") (by decide +kernel)) (fun _ h9 => h9) rfl dX3_doMinute_125 ?_
  refine lv_iconst (v := 1) hx hb dX3_doMinute_128 (by decide) ?_
  refine lx_iadd (v := nI (i + 1)) hx hb (nI_1 i) dX3_doMinute_129 ?_
  refine va_put (D := D) (ci := 4) (v := .int (nI (i + 1))) (ty := .int) (C := RX3) (T := TX3) (N := 7) hx hb hts im_X3_doMinute_X3 tyX3 tyX3_ok nmX3 hown hE.1 hP hD hS 0 rfl rfl 6 (by decide) (hts (.fieldLink RX3 42 "RiverBridges$River" "minute" "I") (by decide +kernel)) (fun _ h9 => h9) rfl (by decide +kernel) rfl rfl (Nat.le_of_ble_eq_true rfl) dX3_doMinute_130 (fun H locs hP hD hS => ?_)
  have hP : va_P D vwCl [(rv, .inr (4, [.ref td, .ref br, .ref sh, .ref ke, .ref tt, .int lg, .int (nI (i + 1))])), (sh, .inr (0, [.int 0, .ref a0, .int 0])), (ke, .inr (0, [.int 0, .ref a0, .int 0])), (br, .inr (0, [.int 0, .ref a0, .int 0]))] H := hP
  have hD : va_D A [(rv, .inr (4, [.ref td, .ref br, .ref sh, .ref ke, .ref tt, .int lg, .int (nI (i + 1))])), (sh, .inr (0, [.int 0, .ref a0, .int 0])), (ke, .inr (0, [.int 0, .ref a0, .int 0])), (br, .inr (0, [.int 0, .ref a0, .int 0]))] := hD
  have hP9 := hP.sub (ws' := [(rv, .inr (4, [.ref td, .ref br, .ref sh, .ref ke, .ref tt, .int lg, .int (nI (i + 1))])), (br, .inr (0, [.int 0, .ref a0, .int 0])), (sh, .inr (0, [.int 0, .ref a0, .int 0])), (ke, .inr (0, [.int 0, .ref a0, .int 0]))]) [0, 3, 1, 2] rfl
  have hD9 := hD.sub (ws' := [(rv, .inr (4, [.ref td, .ref br, .ref sh, .ref ke, .ref tt, .int lg, .int (nI (i + 1))])), (br, .inr (0, [.int 0, .ref a0, .int 0])), (sh, .inr (0, [.int 0, .ref a0, .int 0])), (ke, .inr (0, [.int 0, .ref a0, .int 0]))]) [0, 3, 1, 2] (by decide) rfl
  exact ss_vret () hx hb hr hlocks hP9 hD9 hS (trivial) (Nat.le_of_ble_eq_true rfl) (Nat.le_of_ble_eq_true rfl) dX3_doMinute_133

theorem im_X8_count_X3 : ∀ w ∈ wsX30, w ∈ wsX8_count := fun _ h => List.mem_cons_of_mem _ (List.mem_append_left _ (List.mem_append_left _ (List.mem_append_left _ (List.mem_append_right _ h))))
theorem im_X8_count_X5 : ∀ w ∈ wsX50, w ∈ wsX8_count := fun _ h => List.mem_cons_of_mem _ (List.mem_append_left _ (List.mem_append_left _ (List.mem_append_right _ h)))
theorem im_X8_count_X8 : ∀ w ∈ wsX80, w ∈ wsX8_count := fun _ h => List.mem_cons_of_mem _ (List.mem_append_left _ (List.mem_append_left _ (List.mem_append_left _ (List.mem_append_left _ (List.mem_append_right _ h)))))
set_option maxHeartbeats 400000 in
set_option maxRecDepth 100000 in
theorem c_count (l : Launch) (D : va_G) (cI cZ cB cO cJ : ClassId) (a0 : Nat) (sz : Nat) (rb rd tp bt rv sp td br sh ke tt : Nat) (n : Int32)  : Met l yX8_count wsX8_count ({ frames := 2, cells := 0, slots := 0, locals := 42 }) (Pcs D cI cZ cB cO cJ a0 [.ref rb, .int n] [(rb, .inr (9, [.ref rd, .ref tp, .ref rv, .ref sp, .int 0])), (tp, .inr (6, [.ref bt, .int 0])), (rv, .inr (4, [.ref td, .ref br, .ref sh, .ref ke, .ref tt, .int 5, .int 0])), (br, .inr (0, [.int 0, .ref a0, .int 0])), (sh, .inr (0, [.int 0, .ref a0, .int 0])), (ke, .inr (0, [.int 0, .ref a0, .int 0]))] sz) (va_Qi (fun (r : Int32) (u : Unit) => r = fC n) (fun (u : Unit) t => va_P D vwCl [] t.heap ∧ va_D (va_A [(rb, .inr (9, [.ref rd, .ref tp, .ref rv, .ref sp, .int 0])), (tp, .inr (6, [.ref bt, .int 0])), (rv, .inr (4, [.ref td, .ref br, .ref sh, .ref ke, .ref tt, .int 5, .int 0])), (br, .inr (0, [.int 0, .ref a0, .int 0])), (sh, .inr (0, [.int 0, .ref a0, .int 0])), (ke, .inr (0, [.int 0, .ref a0, .int 0]))] sz) []) (va_A [(rb, .inr (9, [.ref rd, .ref tp, .ref rv, .ref sp, .int 0])), (tp, .inr (6, [.ref bt, .int 0])), (rv, .inr (4, [.ref td, .ref br, .ref sh, .ref ke, .ref tt, .int 5, .int 0])), (br, .inr (0, [.int 0, .ref a0, .int 0])), (sh, .inr (0, [.int 0, .ref a0, .int 0])), (ke, .inr (0, [.int 0, .ref a0, .int 0]))] sz)) 0 0 (va_A [(rb, .inr (9, [.ref rd, .ref tp, .ref rv, .ref sp, .int 0])), (tp, .inr (6, [.ref bt, .int 0])), (rv, .inr (4, [.ref td, .ref br, .ref sh, .ref ke, .ref tt, .int 5, .int 0])), (br, .inr (0, [.int 0, .ref a0, .int 0])), (sh, .inr (0, [.int 0, .ref a0, .int 0])), (ke, .inr (0, [.int 0, .ref a0, .int 0]))] sz) := by
  refine Met.ofW (cc := cX8_count) (maxL := 2) (ret := (some .int)) (by decide) rfl ?_
  intro p e s m args below meth c s₁ B hml hv
  obtain ⟨rfl, hsz, hP, hE, hD0, hZ⟩ := hv
  have hx := B.exec
  have hb := B.bytes
  have hr := B.returns
  have hts := atoms_spec (ws := wsX8_count) B.pre
  have hown : s.vm.findClass RX8 = some m.cls := findClass_of_methodNamed B.named
  have hlocks := B.notSynchronized
  have hin := (name_of_methodNamed B.named B.method).1
  subst hsz
  have hD := hD0.self (sz := s.heap.size)
  generalize hAe : va_A [(rb, .inr (9, [.ref rd, .ref tp, .ref rv, .ref sp, .int 0])), (tp, .inr (6, [.ref bt, .int 0])), (rv, .inr (4, [.ref td, .ref br, .ref sh, .ref ke, .ref tt, .int 5, .int 0])), (br, .inr (0, [.int 0, .ref a0, .int 0])), (sh, .inr (0, [.int 0, .ref a0, .int 0])), (ke, .inr (0, [.int 0, .ref a0, .int 0]))] s.heap.size = A at hD hZ ⊢
  have hA : ∀ q : Nat, s.heap.size ≤ q → A q := fun q h => by rw [← hAe]; exact Or.inr h
  have hS : va_S A s.heap s.heap [] := va_S.rf
  have hP : va_P D vwCl [(rb, .inr (9, [.ref rd, .ref tp, .ref rv, .ref sp, .int 0])), (tp, .inr (6, [.ref bt, .int 0])), (rv, .inr (4, [.ref td, .ref br, .ref sh, .ref ke, .ref tt, .int 5, .int 0])), (br, .inr (0, [.int 0, .ref a0, .int 0])), (sh, .inr (0, [.int 0, .ref a0, .int 0])), (ke, .inr (0, [.int 0, .ref a0, .int 0]))] s.heap := hP
  have hl := lv_entry ([.ref rb, .int n]) (n := 2) (Nat.le_of_ble_eq_true rfl)
  rw [lg_entry_eq]
  generalize (lg_sl ([.ref rb, .int n]) ++ List.replicate (2 - (lg_sl ([.ref rb, .int n])).length) Slot.unset).toArray = ls at hl ⊢
  have hl : lv_has ls 2 [(0, .ref rb), (1, .int n)] := hl
  refine lv_iload_n hx hb dX8_count_0 rfl (lv_at hl 1 rfl) ?_
  by_cases e0 : n = 0
  · refine lv_tableIn (off := 43) (tgt := 44) hx hb dX8_count_1 (by rw [e0]; decide) (by rw [e0]; decide) (by rw [e0]; decide) (by decide) ?_
    refine lv_aload_n hx hb dX8_count_44 rfl (lv_at hl 0 rfl) ?_
    refine va_get (D := D) (ci := 9) (v := .ref rv) (C := RX8) (T := TX8) (N := 5) hx hb hts im_X8_count_X8 hown hE.1 hP 0 rfl rfl 2 (by decide) (hts (.fieldLink RX8 24 "RiverBridges" "river" "LRiverBridges$River;") (by decide +kernel)) (fun _ h9 => h9) rfl dX8_count_45 ?_
    refine va_get (D := D) (ci := 4) (v := .int 0) (C := RX3) (T := TX3) (N := 7) hx hb hts im_X8_count_X3 hown hE.1 hP 2 rfl rfl 6 (by decide) (hts (.fieldLink RX8 56 "RiverBridges$River" "minute" "I") (by decide +kernel)) (fun _ h9 => h9) rfl dX8_count_48 ?_
    have hP9 := hP.sub (ws' := []) [] rfl
    have hD9 := hD.sub (ws' := []) [] (by decide) rfl
    exact ss_iret () hx hb hr hlocks hP9 hD9 hS (by unfold fC; rw [if_pos (by simp [e0])]) (Nat.le_of_ble_eq_true rfl) (Nat.le_of_ble_eq_true rfl) dX8_count_51
  by_cases e1 : n = 1
  · refine lv_tableIn (off := 51) (tgt := 52) hx hb dX8_count_1 (by rw [e1]; decide) (by rw [e1]; decide) (by rw [e1]; decide) (by decide) ?_
    refine lv_aload_n hx hb dX8_count_52 rfl (lv_at hl 0 rfl) ?_
    refine va_get (D := D) (ci := 9) (v := .ref rv) (C := RX8) (T := TX8) (N := 5) hx hb hts im_X8_count_X8 hown hE.1 hP 0 rfl rfl 2 (by decide) (hts (.fieldLink RX8 24 "RiverBridges" "river" "LRiverBridges$River;") (by decide +kernel)) (fun _ h9 => h9) rfl dX8_count_53 ?_
    refine va_get (D := D) (ci := 4) (v := .ref br) (C := RX3) (T := TX3) (N := 7) hx hb hts im_X8_count_X3 hown hE.1 hP 2 rfl rfl 1 (by decide) (hts (.fieldLink RX8 59 "RiverBridges$River" "bridges" "Ljava/util/ArrayList;") (by decide +kernel)) (fun _ h9 => h9) rfl dX8_count_56 ?_
    refine ss_calli (ws := [(rb, .inr (9, [.ref rd, .ref tp, .ref rv, .ref sp, .int 0])), (tp, .inr (6, [.ref bt, .int 0])), (rv, .inr (4, [.ref td, .ref br, .ref sh, .ref ke, .ref tt, .int 5, .int 0])), (br, .inr (0, [.int 0, .ref a0, .int 0])), (sh, .inr (0, [.int 0, .ref a0, .int 0])), (ke, .inr (0, [.int 0, .ref a0, .int 0]))]) (wc := [(br, .inr (0, [.int 0, .ref a0, .int 0]))]) (wr := [(rb, .inr (9, [.ref rd, .ref tp, .ref rv, .ref sp, .int 0])), (tp, .inr (6, [.ref bt, .int 0])), (rv, .inr (4, [.ref td, .ref br, .ref sh, .ref ke, .ref tt, .int 5, .int 0])), (sh, .inr (0, [.int 0, .ref a0, .int 0])), (ke, .inr (0, [.int 0, .ref a0, .int 0]))]) [3] [0, 1, 2, 4, 5] (va_runV (As := []) (rest := []) ⟨hx, hb, hml, hown, hts⟩ (c_AL_size l D cI cZ cB cO cJ a0 s.heap.size br a0 0 0) (cwV 0 hts gX8_count_Jx4a65c_size_8abf5 rfl rfl rfl (by decide +kernel) ⟨Nat.le_of_ble_eq_true rfl, Nat.le_of_ble_eq_true rfl⟩) (preV_std (wc := [(br, .inr (0, [.int 0, .ref a0, .int 0]))]) [3] hE hZ hA hS hP hD rfl (by decide) (fun h9 => va_recv hE.1 h9 (ci := 0) (q0 := 0) rfl rfl)) rfl rfl hl.1 rfl (lv_room (Nat.le_of_ble_eq_true rfl)) dX8_count_59 ⟨Nat.le_of_ble_eq_true rfl, Nat.le_of_ble_eq_true rfl⟩) hP hD hS hA rfl rfl (by decide) (by decide) (fun r1 u H locs hw hP hD hS => ?_)
    try dsimp only at hw
    subst hw
    have hP : va_P D vwCl [(rb, .inr (9, [.ref rd, .ref tp, .ref rv, .ref sp, .int 0])), (tp, .inr (6, [.ref bt, .int 0])), (rv, .inr (4, [.ref td, .ref br, .ref sh, .ref ke, .ref tt, .int 5, .int 0])), (sh, .inr (0, [.int 0, .ref a0, .int 0])), (ke, .inr (0, [.int 0, .ref a0, .int 0])), (br, .inr (0, [.int 0, .ref a0, .int 0]))] H := hP
    have hD : va_D A [(rb, .inr (9, [.ref rd, .ref tp, .ref rv, .ref sp, .int 0])), (tp, .inr (6, [.ref bt, .int 0])), (rv, .inr (4, [.ref td, .ref br, .ref sh, .ref ke, .ref tt, .int 5, .int 0])), (sh, .inr (0, [.int 0, .ref a0, .int 0])), (ke, .inr (0, [.int 0, .ref a0, .int 0])), (br, .inr (0, [.int 0, .ref a0, .int 0]))] := hD
    have hP9 := hP.sub (ws' := []) [] rfl
    have hD9 := hD.sub (ws' := []) [] (by decide) rfl
    exact ss_iret () hx hb hr hlocks hP9 hD9 hS (by unfold fC; rw [if_pos (by simp [e1])]) (Nat.le_of_ble_eq_true rfl) (Nat.le_of_ble_eq_true rfl) dX8_count_62
  by_cases e2 : n = 2
  · refine lv_tableIn (off := 62) (tgt := 63) hx hb dX8_count_1 (by rw [e2]; decide) (by rw [e2]; decide) (by rw [e2]; decide) (by decide) ?_
    refine lv_aload_n hx hb dX8_count_63 rfl (lv_at hl 0 rfl) ?_
    refine va_get (D := D) (ci := 9) (v := .ref rv) (C := RX8) (T := TX8) (N := 5) hx hb hts im_X8_count_X8 hown hE.1 hP 0 rfl rfl 2 (by decide) (hts (.fieldLink RX8 24 "RiverBridges" "river" "LRiverBridges$River;") (by decide +kernel)) (fun _ h9 => h9) rfl dX8_count_64 ?_
    refine va_get (D := D) (ci := 4) (v := .ref sh) (C := RX3) (T := TX3) (N := 7) hx hb hts im_X8_count_X3 hown hE.1 hP 2 rfl rfl 2 (by decide) (hts (.fieldLink RX8 118 "RiverBridges$River" "ships" "Ljava/util/ArrayList;") (by decide +kernel)) (fun _ h9 => h9) rfl dX8_count_67 ?_
    refine ss_calli (ws := [(rb, .inr (9, [.ref rd, .ref tp, .ref rv, .ref sp, .int 0])), (tp, .inr (6, [.ref bt, .int 0])), (rv, .inr (4, [.ref td, .ref br, .ref sh, .ref ke, .ref tt, .int 5, .int 0])), (br, .inr (0, [.int 0, .ref a0, .int 0])), (sh, .inr (0, [.int 0, .ref a0, .int 0])), (ke, .inr (0, [.int 0, .ref a0, .int 0]))]) (wc := [(sh, .inr (0, [.int 0, .ref a0, .int 0]))]) (wr := [(rb, .inr (9, [.ref rd, .ref tp, .ref rv, .ref sp, .int 0])), (tp, .inr (6, [.ref bt, .int 0])), (rv, .inr (4, [.ref td, .ref br, .ref sh, .ref ke, .ref tt, .int 5, .int 0])), (br, .inr (0, [.int 0, .ref a0, .int 0])), (ke, .inr (0, [.int 0, .ref a0, .int 0]))]) [4] [0, 1, 2, 3, 5] (va_runV (As := []) (rest := []) ⟨hx, hb, hml, hown, hts⟩ (c_AL_size l D cI cZ cB cO cJ a0 s.heap.size sh a0 0 0) (cwV 0 hts gX8_count_Jx4a65c_size_8abf5 rfl rfl rfl (by decide +kernel) ⟨Nat.le_of_ble_eq_true rfl, Nat.le_of_ble_eq_true rfl⟩) (preV_std (wc := [(sh, .inr (0, [.int 0, .ref a0, .int 0]))]) [4] hE hZ hA hS hP hD rfl (by decide) (fun h9 => va_recv hE.1 h9 (ci := 0) (q0 := 0) rfl rfl)) rfl rfl hl.1 rfl (lv_room (Nat.le_of_ble_eq_true rfl)) dX8_count_70 ⟨Nat.le_of_ble_eq_true rfl, Nat.le_of_ble_eq_true rfl⟩) hP hD hS hA rfl rfl (by decide) (by decide) (fun r2 u H locs hw hP hD hS => ?_)
    try dsimp only at hw
    subst hw
    have hP : va_P D vwCl [(rb, .inr (9, [.ref rd, .ref tp, .ref rv, .ref sp, .int 0])), (tp, .inr (6, [.ref bt, .int 0])), (rv, .inr (4, [.ref td, .ref br, .ref sh, .ref ke, .ref tt, .int 5, .int 0])), (br, .inr (0, [.int 0, .ref a0, .int 0])), (ke, .inr (0, [.int 0, .ref a0, .int 0])), (sh, .inr (0, [.int 0, .ref a0, .int 0]))] H := hP
    have hD : va_D A [(rb, .inr (9, [.ref rd, .ref tp, .ref rv, .ref sp, .int 0])), (tp, .inr (6, [.ref bt, .int 0])), (rv, .inr (4, [.ref td, .ref br, .ref sh, .ref ke, .ref tt, .int 5, .int 0])), (br, .inr (0, [.int 0, .ref a0, .int 0])), (ke, .inr (0, [.int 0, .ref a0, .int 0])), (sh, .inr (0, [.int 0, .ref a0, .int 0]))] := hD
    have hP9 := hP.sub (ws' := []) [] rfl
    have hD9 := hD.sub (ws' := []) [] (by decide) rfl
    exact ss_iret () hx hb hr hlocks hP9 hD9 hS (by unfold fC; rw [if_pos (by simp [e2])]) (Nat.le_of_ble_eq_true rfl) (Nat.le_of_ble_eq_true rfl) dX8_count_73
  by_cases e3 : n = 3
  · refine lv_tableIn (off := 73) (tgt := 74) hx hb dX8_count_1 (by rw [e3]; decide) (by rw [e3]; decide) (by rw [e3]; decide) (by decide) ?_
    refine lv_aload_n hx hb dX8_count_74 rfl (lv_at hl 0 rfl) ?_
    refine va_get (D := D) (ci := 9) (v := .ref rv) (C := RX8) (T := TX8) (N := 5) hx hb hts im_X8_count_X8 hown hE.1 hP 0 rfl rfl 2 (by decide) (hts (.fieldLink RX8 24 "RiverBridges" "river" "LRiverBridges$River;") (by decide +kernel)) (fun _ h9 => h9) rfl dX8_count_75 ?_
    refine va_get (D := D) (ci := 4) (v := .ref ke) (C := RX3) (T := TX3) (N := 7) hx hb hts im_X8_count_X3 hown hE.1 hP 2 rfl rfl 3 (by decide) (hts (.fieldLink RX8 101 "RiverBridges$River" "keepers" "Ljava/util/ArrayList;") (by decide +kernel)) (fun _ h9 => h9) rfl dX8_count_78 ?_
    refine ss_calli (ws := [(rb, .inr (9, [.ref rd, .ref tp, .ref rv, .ref sp, .int 0])), (tp, .inr (6, [.ref bt, .int 0])), (rv, .inr (4, [.ref td, .ref br, .ref sh, .ref ke, .ref tt, .int 5, .int 0])), (br, .inr (0, [.int 0, .ref a0, .int 0])), (sh, .inr (0, [.int 0, .ref a0, .int 0])), (ke, .inr (0, [.int 0, .ref a0, .int 0]))]) (wc := [(ke, .inr (0, [.int 0, .ref a0, .int 0]))]) (wr := [(rb, .inr (9, [.ref rd, .ref tp, .ref rv, .ref sp, .int 0])), (tp, .inr (6, [.ref bt, .int 0])), (rv, .inr (4, [.ref td, .ref br, .ref sh, .ref ke, .ref tt, .int 5, .int 0])), (br, .inr (0, [.int 0, .ref a0, .int 0])), (sh, .inr (0, [.int 0, .ref a0, .int 0]))]) [5] [0, 1, 2, 3, 4] (va_runV (As := []) (rest := []) ⟨hx, hb, hml, hown, hts⟩ (c_AL_size l D cI cZ cB cO cJ a0 s.heap.size ke a0 0 0) (cwV 0 hts gX8_count_Jx4a65c_size_8abf5 rfl rfl rfl (by decide +kernel) ⟨Nat.le_of_ble_eq_true rfl, Nat.le_of_ble_eq_true rfl⟩) (preV_std (wc := [(ke, .inr (0, [.int 0, .ref a0, .int 0]))]) [5] hE hZ hA hS hP hD rfl (by decide) (fun h9 => va_recv hE.1 h9 (ci := 0) (q0 := 0) rfl rfl)) rfl rfl hl.1 rfl (lv_room (Nat.le_of_ble_eq_true rfl)) dX8_count_81 ⟨Nat.le_of_ble_eq_true rfl, Nat.le_of_ble_eq_true rfl⟩) hP hD hS hA rfl rfl (by decide) (by decide) (fun r3 u H locs hw hP hD hS => ?_)
    try dsimp only at hw
    subst hw
    have hP : va_P D vwCl [(rb, .inr (9, [.ref rd, .ref tp, .ref rv, .ref sp, .int 0])), (tp, .inr (6, [.ref bt, .int 0])), (rv, .inr (4, [.ref td, .ref br, .ref sh, .ref ke, .ref tt, .int 5, .int 0])), (br, .inr (0, [.int 0, .ref a0, .int 0])), (sh, .inr (0, [.int 0, .ref a0, .int 0])), (ke, .inr (0, [.int 0, .ref a0, .int 0]))] H := hP
    have hD : va_D A [(rb, .inr (9, [.ref rd, .ref tp, .ref rv, .ref sp, .int 0])), (tp, .inr (6, [.ref bt, .int 0])), (rv, .inr (4, [.ref td, .ref br, .ref sh, .ref ke, .ref tt, .int 5, .int 0])), (br, .inr (0, [.int 0, .ref a0, .int 0])), (sh, .inr (0, [.int 0, .ref a0, .int 0])), (ke, .inr (0, [.int 0, .ref a0, .int 0]))] := hD
    have hP9 := hP.sub (ws' := []) [] rfl
    have hD9 := hD.sub (ws' := []) [] (by decide) rfl
    exact ss_iret () hx hb hr hlocks hP9 hD9 hS (by unfold fC; rw [if_pos (by simp [e3])]) (Nat.le_of_ble_eq_true rfl) (Nat.le_of_ble_eq_true rfl) dX8_count_84
  by_cases e4 : n = 4
  · refine lv_tableIn (off := 84) (tgt := 85) hx hb dX8_count_1 (by rw [e4]; decide) (by rw [e4]; decide) (by rw [e4]; decide) (by decide) ?_
    refine lv_aload_n hx hb dX8_count_85 rfl (lv_at hl 0 rfl) ?_
    refine va_get (D := D) (ci := 9) (v := .ref rv) (C := RX8) (T := TX8) (N := 5) hx hb hts im_X8_count_X8 hown hE.1 hP 0 rfl rfl 2 (by decide) (hts (.fieldLink RX8 24 "RiverBridges" "river" "LRiverBridges$River;") (by decide +kernel)) (fun _ h9 => h9) rfl dX8_count_86 ?_
    refine ss_calli (ws := [(rb, .inr (9, [.ref rd, .ref tp, .ref rv, .ref sp, .int 0])), (tp, .inr (6, [.ref bt, .int 0])), (rv, .inr (4, [.ref td, .ref br, .ref sh, .ref ke, .ref tt, .int 5, .int 0])), (br, .inr (0, [.int 0, .ref a0, .int 0])), (sh, .inr (0, [.int 0, .ref a0, .int 0])), (ke, .inr (0, [.int 0, .ref a0, .int 0]))]) (wc := [(rv, .inr (4, [.ref td, .ref br, .ref sh, .ref ke, .ref tt, .int 5, .int 0])), (sh, .inr (0, [.int 0, .ref a0, .int 0]))]) (wr := [(rb, .inr (9, [.ref rd, .ref tp, .ref rv, .ref sp, .int 0])), (tp, .inr (6, [.ref bt, .int 0])), (br, .inr (0, [.int 0, .ref a0, .int 0])), (ke, .inr (0, [.int 0, .ref a0, .int 0]))]) [2, 4] [0, 1, 3, 5] (va_runV (As := []) (rest := []) ⟨hx, hb, hml, hown, hts⟩ (c_shipsAll l D cI cZ cB cO cJ a0 s.heap.size rv td br sh ke tt 5 0) (cwV 0 hts gX8_count_X3_shipsAllThrough rfl rfl rfl (by decide +kernel) ⟨Nat.le_of_ble_eq_true rfl, Nat.le_of_ble_eq_true rfl⟩) (preV_std (wc := [(rv, .inr (4, [.ref td, .ref br, .ref sh, .ref ke, .ref tt, .int 5, .int 0])), (sh, .inr (0, [.int 0, .ref a0, .int 0]))]) [2, 4] hE hZ hA hS hP hD rfl (by decide) (fun h9 => va_recv hE.1 h9 (ci := 4) (q0 := 0) rfl rfl)) rfl rfl hl.1 rfl (lv_room (Nat.le_of_ble_eq_true rfl)) dX8_count_89 ⟨Nat.le_of_ble_eq_true rfl, Nat.le_of_ble_eq_true rfl⟩) hP hD hS hA rfl rfl (by decide) (by decide) (fun r4 u H locs hw hP hD hS => ?_)
    try dsimp only at hw
    subst hw
    have hP : va_P D vwCl [(rb, .inr (9, [.ref rd, .ref tp, .ref rv, .ref sp, .int 0])), (tp, .inr (6, [.ref bt, .int 0])), (br, .inr (0, [.int 0, .ref a0, .int 0])), (ke, .inr (0, [.int 0, .ref a0, .int 0])), (rv, .inr (4, [.ref td, .ref br, .ref sh, .ref ke, .ref tt, .int 5, .int 0])), (sh, .inr (0, [.int 0, .ref a0, .int 0]))] H := hP
    have hD : va_D A [(rb, .inr (9, [.ref rd, .ref tp, .ref rv, .ref sp, .int 0])), (tp, .inr (6, [.ref bt, .int 0])), (br, .inr (0, [.int 0, .ref a0, .int 0])), (ke, .inr (0, [.int 0, .ref a0, .int 0])), (rv, .inr (4, [.ref td, .ref br, .ref sh, .ref ke, .ref tt, .int 5, .int 0])), (sh, .inr (0, [.int 0, .ref a0, .int 0]))] := hD
    have hP9 := hP.sub (ws' := []) [] rfl
    have hD9 := hD.sub (ws' := []) [] (by decide) rfl
    exact ss_iret () hx hb hr hlocks hP9 hD9 hS (by unfold fC; rw [if_pos (by simp [e4])]) (Nat.le_of_ble_eq_true rfl) (Nat.le_of_ble_eq_true rfl) dX8_count_92
  by_cases e5 : n = 5
  · refine lv_tableIn (off := 92) (tgt := 93) hx hb dX8_count_1 (by rw [e5]; decide) (by rw [e5]; decide) (by rw [e5]; decide) (by decide) ?_
    refine lv_aload_n hx hb dX8_count_93 rfl (lv_at hl 0 rfl) ?_
    refine va_get (D := D) (ci := 9) (v := .ref rv) (C := RX8) (T := TX8) (N := 5) hx hb hts im_X8_count_X8 hown hE.1 hP 0 rfl rfl 2 (by decide) (hts (.fieldLink RX8 24 "RiverBridges" "river" "LRiverBridges$River;") (by decide +kernel)) (fun _ h9 => h9) rfl dX8_count_94 ?_
    refine ss_calli (ws := [(rb, .inr (9, [.ref rd, .ref tp, .ref rv, .ref sp, .int 0])), (tp, .inr (6, [.ref bt, .int 0])), (rv, .inr (4, [.ref td, .ref br, .ref sh, .ref ke, .ref tt, .int 5, .int 0])), (br, .inr (0, [.int 0, .ref a0, .int 0])), (sh, .inr (0, [.int 0, .ref a0, .int 0])), (ke, .inr (0, [.int 0, .ref a0, .int 0]))]) (wc := [(rv, .inr (4, [.ref td, .ref br, .ref sh, .ref ke, .ref tt, .int 5, .int 0])), (sh, .inr (0, [.int 0, .ref a0, .int 0]))]) (wr := [(rb, .inr (9, [.ref rd, .ref tp, .ref rv, .ref sp, .int 0])), (tp, .inr (6, [.ref bt, .int 0])), (br, .inr (0, [.int 0, .ref a0, .int 0])), (ke, .inr (0, [.int 0, .ref a0, .int 0]))]) [2, 4] [0, 1, 3, 5] (va_runV (As := []) (rest := []) ⟨hx, hb, hml, hown, hts⟩ (c_longest l D cI cZ cB cO cJ a0 s.heap.size rv td br sh ke tt 5 0) (cwV 0 hts gX8_count_X3_longestWait rfl rfl rfl (by decide +kernel) ⟨Nat.le_of_ble_eq_true rfl, Nat.le_of_ble_eq_true rfl⟩) (preV_std (wc := [(rv, .inr (4, [.ref td, .ref br, .ref sh, .ref ke, .ref tt, .int 5, .int 0])), (sh, .inr (0, [.int 0, .ref a0, .int 0]))]) [2, 4] hE hZ hA hS hP hD rfl (by decide) (fun h9 => va_recv hE.1 h9 (ci := 4) (q0 := 0) rfl rfl)) rfl rfl hl.1 rfl (lv_room (Nat.le_of_ble_eq_true rfl)) dX8_count_97 ⟨Nat.le_of_ble_eq_true rfl, Nat.le_of_ble_eq_true rfl⟩) hP hD hS hA rfl rfl (by decide) (by decide) (fun r5 u H locs hw hP hD hS => ?_)
    try dsimp only at hw
    subst hw
    have hP : va_P D vwCl [(rb, .inr (9, [.ref rd, .ref tp, .ref rv, .ref sp, .int 0])), (tp, .inr (6, [.ref bt, .int 0])), (br, .inr (0, [.int 0, .ref a0, .int 0])), (ke, .inr (0, [.int 0, .ref a0, .int 0])), (rv, .inr (4, [.ref td, .ref br, .ref sh, .ref ke, .ref tt, .int 5, .int 0])), (sh, .inr (0, [.int 0, .ref a0, .int 0]))] H := hP
    have hD : va_D A [(rb, .inr (9, [.ref rd, .ref tp, .ref rv, .ref sp, .int 0])), (tp, .inr (6, [.ref bt, .int 0])), (br, .inr (0, [.int 0, .ref a0, .int 0])), (ke, .inr (0, [.int 0, .ref a0, .int 0])), (rv, .inr (4, [.ref td, .ref br, .ref sh, .ref ke, .ref tt, .int 5, .int 0])), (sh, .inr (0, [.int 0, .ref a0, .int 0]))] := hD
    have hP9 := hP.sub (ws' := []) [] rfl
    have hD9 := hD.sub (ws' := []) [] (by decide) rfl
    exact ss_iret () hx hb hr hlocks hP9 hD9 hS (by unfold fC; rw [if_pos (by simp [e5])]) (Nat.le_of_ble_eq_true rfl) (Nat.le_of_ble_eq_true rfl) dX8_count_100
  by_cases e6 : n = 6
  · refine lv_tableIn (off := 100) (tgt := 101) hx hb dX8_count_1 (by rw [e6]; decide) (by rw [e6]; decide) (by rw [e6]; decide) (by decide) ?_
    refine lv_aload_n hx hb dX8_count_101 rfl (lv_at hl 0 rfl) ?_
    refine va_get (D := D) (ci := 9) (v := .ref tp) (C := RX8) (T := TX8) (N := 5) hx hb hts im_X8_count_X8 hown hE.1 hP 0 rfl rfl 1 (by decide) (hts (.fieldLink RX8 20 "RiverBridges" "tape" "LRiverBridges$Tape;") (by decide +kernel)) (fun _ h9 => h9) rfl dX8_count_102 ?_
    refine va_get (D := D) (ci := 6) (v := .int 0) (C := RX5) (T := TX5) (N := 2) hx hb hts im_X8_count_X5 hown hE.1 hP 1 rfl rfl 1 (by decide) (hts (.fieldLink RX8 49 "RiverBridges$Tape" "size" "I") (by decide +kernel)) (fun _ h9 => h9) rfl dX8_count_105 ?_
    have hP9 := hP.sub (ws' := []) [] rfl
    have hD9 := hD.sub (ws' := []) [] (by decide) rfl
    exact ss_iret () hx hb hr hlocks hP9 hD9 hS (by unfold fC; rw [if_pos (by simp [e6])]) (Nat.le_of_ble_eq_true rfl) (Nat.le_of_ble_eq_true rfl) dX8_count_108
  have g0 := lv_neT e0 (a := 0) (by decide)
  have g1 := lv_neT e1 (a := 1) (by decide)
  have g2 := lv_neT e2 (a := 2) (by decide)
  have g3 := lv_neT e3 (a := 3) (by decide)
  have g4 := lv_neT e4 (a := 4) (by decide)
  have g5 := lv_neT e5 (a := 5) (by decide)
  have g6 := lv_neT e6 (a := 6) (by decide)
  refine lv_tableOut (tgt := 109) hx hb dX8_count_1 (by omega) (by decide) ?_
  refine lv_iconst (v := -1) hx hb dX8_count_109 (by decide) ?_
  have hP9 := hP.sub (ws' := []) [] rfl
  have hD9 := hD.sub (ws' := []) [] (by decide) rfl
  exact ss_iret () hx hb hr hlocks hP9 hD9 hS (by unfold fC; rw [if_neg (by simp [e0, e1, e2, e3, e4, e5, e6])]) (Nat.le_of_ble_eq_true rfl) (Nat.le_of_ble_eq_true rfl) dX8_count_110

theorem im_X2_advance_X2 : ∀ w ∈ wsX20, w ∈ wsX2_advance := fun _ h => List.mem_cons_of_mem _ (List.mem_append_left _ (List.mem_append_right _ h))
theorem im_X2_advance_X5 : ∀ w ∈ wsX50, w ∈ wsX2_advance := fun _ h => List.mem_cons_of_mem _ (List.mem_append_right _ h)
set_option maxHeartbeats 400000 in
set_option maxRecDepth 100000 in
theorem c_advance (l : Launch) (D : va_G) (cI cZ cB cO cJ : ClassId) (a0 : Nat) (sz : Nat) (rd tp bt : Nat) (x1 x2 x4 x5 x6 : Int32)  : Met l yX2_advance wsX2_advance ({ frames := 1, cells := 0, slots := 0, locals := 13 }) (Pcs D cI cZ cB cO cJ a0 [.ref rd] [(rd, .inr (3, [.ref tp, .int 0, .int x1, .int x2, .int 0, .int x4, .int x5, .int x6, .int 0, .int 0])), (tp, .inr (6, [.ref bt, .int 0]))] sz) (va_Qv (fun (u : Unit) => True) (fun (u : Unit) t => va_P D vwCl [(rd, .inr (3, [.ref tp, .int 0, .int x1, .int x2, .int 0, .int 1, .int 0, .int x6, .int 0, .int 0])), (tp, .inr (6, [.ref bt, .int 0]))] t.heap ∧ va_D (va_A [(rd, .inr (3, [.ref tp, .int 0, .int x1, .int x2, .int 0, .int x4, .int x5, .int x6, .int 0, .int 0])), (tp, .inr (6, [.ref bt, .int 0]))] sz) [(rd, .inr (3, [.ref tp, .int 0, .int x1, .int x2, .int 0, .int 1, .int 0, .int x6, .int 0, .int 0])), (tp, .inr (6, [.ref bt, .int 0]))]) (va_A [(rd, .inr (3, [.ref tp, .int 0, .int x1, .int x2, .int 0, .int x4, .int x5, .int x6, .int 0, .int 0])), (tp, .inr (6, [.ref bt, .int 0]))] sz)) 0 0 (va_A [(rd, .inr (3, [.ref tp, .int 0, .int x1, .int x2, .int 0, .int x4, .int x5, .int x6, .int 0, .int 0])), (tp, .inr (6, [.ref bt, .int 0]))] sz) := by
  refine Met.ofW (cc := cX2_advance) (maxL := 2) (ret := none) (by decide) rfl ?_
  intro p e s m args below meth c s₁ B hml hv
  obtain ⟨rfl, hsz, hP, hE, hD0, hZ⟩ := hv
  have hx := B.exec
  have hb := B.bytes
  have hr := B.returns
  have hts := atoms_spec (ws := wsX2_advance) B.pre
  have hown : s.vm.findClass RX2 = some m.cls := findClass_of_methodNamed B.named
  have hlocks := B.notSynchronized
  have hin := (name_of_methodNamed B.named B.method).1
  subst hsz
  have hD := hD0.self (sz := s.heap.size)
  generalize hAe : va_A [(rd, .inr (3, [.ref tp, .int 0, .int x1, .int x2, .int 0, .int x4, .int x5, .int x6, .int 0, .int 0])), (tp, .inr (6, [.ref bt, .int 0]))] s.heap.size = A at hD hZ ⊢
  have hA : ∀ q : Nat, s.heap.size ≤ q → A q := fun q h => by rw [← hAe]; exact Or.inr h
  have hS : va_S A s.heap s.heap [] := va_S.rf
  have hP : va_P D vwCl [(rd, .inr (3, [.ref tp, .int 0, .int x1, .int x2, .int 0, .int x4, .int x5, .int x6, .int 0, .int 0])), (tp, .inr (6, [.ref bt, .int 0]))] s.heap := hP
  have hl := lv_entry ([.ref rd]) (n := 2) (Nat.le_of_ble_eq_true rfl)
  rw [lg_entry_eq]
  generalize (lg_sl ([.ref rd]) ++ List.replicate (2 - (lg_sl ([.ref rd])).length) Slot.unset).toArray = ls at hl ⊢
  have hl : lv_has ls 2 [(0, .ref rd)] := hl
  refine lv_aload_n hx hb dX2_advance_0 rfl (lv_at hl 0 rfl) ?_
  refine va_get (D := D) (ci := 3) (v := .ref tp) (C := RX2) (T := TX2) (N := 10) hx hb hts im_X2_advance_X2 hown hE.1 hP 0 rfl rfl 0 (by decide) (hts (.fieldLink RX2 12 "RiverBridges$Reader" "tape" "LRiverBridges$Tape;") (by decide +kernel)) (fun _ h9 => h9) rfl dX2_advance_1 ?_
  refine va_get (D := D) (ci := 6) (v := .int 0) (C := RX5) (T := TX5) (N := 2) hx hb hts im_X2_advance_X5 hown hE.1 hP 1 rfl rfl 1 (by decide) (hts (.fieldLink RX2 102 "RiverBridges$Tape" "size" "I") (by decide +kernel)) (fun _ h9 => h9) rfl dX2_advance_4 ?_
  refine lv_sipush (v := 400) hx hb dX2_advance_7 (by decide) ?_
  refine va_mmin hx hb (by rw [hml]; exact hl.1.symm) hown (hts (.methodLink RX2 105 Lib.Math.min.name) (by decide +kernel)) (hts (.static Lib.Math.min.name) (by decide +kernel)) (hts (.initialized "java/lang/Math") (by decide +kernel)) (hts (.code Lib.Math.min.name Lib.Math.min.code 2 (some .int)) (by decide +kernel)) (Nat.le_of_ble_eq_true rfl) (Nat.le_of_ble_eq_true rfl) (Nat.le_of_ble_eq_true rfl) (Nat.le_of_ble_eq_true rfl) dX2_advance_10 ?_
  refine lv_topi (fun z1 ez1 => ?_)
  have ez2 : z1 = 0 := ez1.trans (by decide)
  subst ez2
  refine lv_istore_n (lv' := [(1, .int 0), (0, .ref rd)]) hx hb dX2_advance_13 rfl hl (by decide) rfl (fun ls hl => ?_)
  refine lv_aload_n hx hb dX2_advance_14 rfl (lv_at hl 1 rfl) ?_
  refine va_get (D := D) (ci := 3) (v := .int 0) (C := RX2) (T := TX2) (N := 10) hx hb hts im_X2_advance_X2 hown hE.1 hP 0 rfl rfl 4 (by decide) (hts (.fieldLink RX2 28 "RiverBridges$Reader" "place" "I") (by decide +kernel)) (fun _ h9 => h9) rfl dX2_advance_15 ?_
  refine lv_iload_n hx hb dX2_advance_18 rfl (lv_at hl 0 rfl) ?_
  refine lv_icmp_ge (tgt := 53) hx hb dX2_advance_19 (by decide) (fun _ => ?_) (fun c9 => absurd (by decide) c9)
  refine lv_aload_n hx hb dX2_advance_53 rfl (lv_at hl 1 rfl) ?_
  refine va_get (D := D) (ci := 3) (v := .int 0) (C := RX2) (T := TX2) (N := 10) hx hb hts im_X2_advance_X2 hown hE.1 hP 0 rfl rfl 4 (by decide) (hts (.fieldLink RX2 28 "RiverBridges$Reader" "place" "I") (by decide +kernel)) (fun _ h9 => h9) rfl dX2_advance_54 ?_
  refine lv_iload_n hx hb dX2_advance_57 rfl (lv_at hl 0 rfl) ?_
  refine lv_icmp_lt (tgt := 89) hx hb dX2_advance_58 (by decide) (fun c9 => absurd c9 (by decide)) (fun _ => ?_)
  refine lv_aload_n hx hb dX2_advance_61 rfl (lv_at hl 1 rfl) ?_
  refine lv_iload_n hx hb dX2_advance_62 rfl (lv_at hl 0 rfl) ?_
  refine va_put (D := D) (ci := 3) (v := .int 0) (ty := .int) (C := RX2) (T := TX2) (N := 10) hx hb hts im_X2_advance_X2 tyX2 tyX2_ok nmX2 hown hE.1 hP hD hS 0 rfl rfl 6 (by decide) (hts (.fieldLink RX2 34 "RiverBridges$Reader" "start" "I") (by decide +kernel)) (fun _ h9 => h9) rfl (by decide +kernel) rfl rfl (Nat.le_of_ble_eq_true rfl) dX2_advance_63 (fun H locs hP hD hS => ?_)
  have hP : va_P D vwCl [(rd, .inr (3, [.ref tp, .int 0, .int x1, .int x2, .int 0, .int x4, .int 0, .int x6, .int 0, .int 0])), (tp, .inr (6, [.ref bt, .int 0]))] H := hP
  have hD : va_D A [(rd, .inr (3, [.ref tp, .int 0, .int x1, .int x2, .int 0, .int x4, .int 0, .int x6, .int 0, .int 0])), (tp, .inr (6, [.ref bt, .int 0]))] := hD
  refine lv_aload_n hx hb dX2_advance_66 rfl (lv_at hl 1 rfl) ?_
  refine lv_aload_n hx hb dX2_advance_67 rfl (lv_at hl 1 rfl) ?_
  refine va_get (D := D) (ci := 3) (v := .ref tp) (C := RX2) (T := TX2) (N := 10) hx hb hts im_X2_advance_X2 hown hE.1 hP 0 rfl rfl 0 (by decide) (hts (.fieldLink RX2 12 "RiverBridges$Reader" "tape" "LRiverBridges$Tape;") (by decide +kernel)) (fun _ h9 => h9) rfl dX2_advance_68 ?_
  refine va_get (D := D) (ci := 6) (v := .int 0) (C := RX5) (T := TX5) (N := 2) hx hb hts im_X2_advance_X5 hown hE.1 hP 1 rfl rfl 1 (by decide) (hts (.fieldLink RX2 102 "RiverBridges$Tape" "size" "I") (by decide +kernel)) (fun _ h9 => h9) rfl dX2_advance_71 ?_
  refine lv_sipush (v := 400) hx hb dX2_advance_74 (by decide) ?_
  refine lv_icmp_le (tgt := 84) hx hb dX2_advance_77 (by decide) (fun _ => ?_) (fun c9 => absurd (by decide) c9)
  refine lv_iconst (v := 1) hx hb dX2_advance_84 (by decide) ?_
  refine va_put (D := D) (ci := 3) (v := .int 1) (ty := .int) (C := RX2) (T := TX2) (N := 10) hx hb hts im_X2_advance_X2 tyX2 tyX2_ok nmX2 hown hE.1 hP hD hS 0 rfl rfl 5 (by decide) (hts (.fieldLink RX2 31 "RiverBridges$Reader" "token" "I") (by decide +kernel)) (fun _ h9 => h9) rfl (by decide +kernel) rfl rfl (Nat.le_of_ble_eq_true rfl) dX2_advance_85 (fun H locs hP hD hS => ?_)
  have hP : va_P D vwCl [(rd, .inr (3, [.ref tp, .int 0, .int x1, .int x2, .int 0, .int 1, .int 0, .int x6, .int 0, .int 0])), (tp, .inr (6, [.ref bt, .int 0]))] H := hP
  have hD : va_D A [(rd, .inr (3, [.ref tp, .int 0, .int x1, .int x2, .int 0, .int 1, .int 0, .int x6, .int 0, .int 0])), (tp, .inr (6, [.ref bt, .int 0]))] := hD
  have hP9 := hP.sub (ws' := [(rd, .inr (3, [.ref tp, .int 0, .int x1, .int x2, .int 0, .int 1, .int 0, .int x6, .int 0, .int 0])), (tp, .inr (6, [.ref bt, .int 0]))]) [0, 1] rfl
  have hD9 := hD.sub (ws' := [(rd, .inr (3, [.ref tp, .int 0, .int x1, .int x2, .int 0, .int 1, .int 0, .int x6, .int 0, .int 0])), (tp, .inr (6, [.ref bt, .int 0]))]) [0, 1] (by decide) rfl
  exact ss_vret () hx hb hr hlocks hP9 hD9 hS (trivial) (Nat.le_of_ble_eq_true rfl) (Nat.le_of_ble_eq_true rfl) dX2_advance_88

theorem im_X2_takeToken_X2 : ∀ w ∈ wsX20, w ∈ wsX2_takeToken := fun _ h => List.mem_cons_of_mem _ (List.mem_append_left _ (List.mem_append_right _ h))
set_option maxHeartbeats 400000 in
set_option maxRecDepth 100000 in
theorem c_takeToken (l : Launch) (D : va_G) (cI cZ cB cO cJ : ClassId) (a0 : Nat) (sz : Nat) (rd tp sp : Nat) (x1 x2 x6 : Int32)  : Met l yX2_takeToken wsX2_takeToken ({ frames := 0, cells := 0, slots := 0, locals := 0 }) (Pcs D cI cZ cB cO cJ a0 [.ref rd, .ref sp] [(rd, .inr (3, [.ref tp, .int 0, .int x1, .int x2, .int 0, .int 1, .int 0, .int x6, .int 0, .int 0]))] sz) (va_Qi (fun (r : Int32) (u : Unit) => r = 0) (fun (u : Unit) t => va_P D vwCl [(rd, .inr (3, [.ref tp, .int 0, .int x1, .int x2, .int 0, .int 1, .int 0, .int x6, .int 0, .int 0]))] t.heap ∧ va_D (va_A [(rd, .inr (3, [.ref tp, .int 0, .int x1, .int x2, .int 0, .int 1, .int 0, .int x6, .int 0, .int 0]))] sz) [(rd, .inr (3, [.ref tp, .int 0, .int x1, .int x2, .int 0, .int 1, .int 0, .int x6, .int 0, .int 0]))]) (va_A [(rd, .inr (3, [.ref tp, .int 0, .int x1, .int x2, .int 0, .int 1, .int 0, .int x6, .int 0, .int 0]))] sz)) 0 0 (va_A [(rd, .inr (3, [.ref tp, .int 0, .int x1, .int x2, .int 0, .int 1, .int 0, .int x6, .int 0, .int 0]))] sz) := by
  refine Met.ofW (cc := cX2_takeToken) (maxL := 2) (ret := (some .boolean)) (by decide) rfl ?_
  intro p e s m args below meth c s₁ B hml hv
  obtain ⟨rfl, hsz, hP, hE, hD0, hZ⟩ := hv
  have hx := B.exec
  have hb := B.bytes
  have hr := B.returns
  have hts := atoms_spec (ws := wsX2_takeToken) B.pre
  have hown : s.vm.findClass RX2 = some m.cls := findClass_of_methodNamed B.named
  have hlocks := B.notSynchronized
  have hin := (name_of_methodNamed B.named B.method).1
  subst hsz
  have hD := hD0.self (sz := s.heap.size)
  generalize hAe : va_A [(rd, .inr (3, [.ref tp, .int 0, .int x1, .int x2, .int 0, .int 1, .int 0, .int x6, .int 0, .int 0]))] s.heap.size = A at hD hZ ⊢
  have hA : ∀ q : Nat, s.heap.size ≤ q → A q := fun q h => by rw [← hAe]; exact Or.inr h
  have hS : va_S A s.heap s.heap [] := va_S.rf
  have hP : va_P D vwCl [(rd, .inr (3, [.ref tp, .int 0, .int x1, .int x2, .int 0, .int 1, .int 0, .int x6, .int 0, .int 0]))] s.heap := hP
  have hl := lv_entry ([.ref rd, .ref sp]) (n := 2) (Nat.le_of_ble_eq_true rfl)
  rw [lg_entry_eq]
  generalize (lg_sl ([.ref rd, .ref sp]) ++ List.replicate (2 - (lg_sl ([.ref rd, .ref sp])).length) Slot.unset).toArray = ls at hl ⊢
  have hl : lv_has ls 2 [(0, .ref rd), (1, .ref sp)] := hl
  refine lv_aload_n hx hb dX2_takeToken_0 rfl (lv_at hl 0 rfl) ?_
  refine va_get (D := D) (ci := 3) (v := .int 1) (C := RX2) (T := TX2) (N := 10) hx hb hts im_X2_takeToken_X2 hown hE.1 hP 0 rfl rfl 5 (by decide) (hts (.fieldLink RX2 31 "RiverBridges$Reader" "token" "I") (by decide +kernel)) (fun _ h9 => h9) rfl dX2_takeToken_1 ?_
  refine lv_if_ne (tgt := 13) hx hb dX2_takeToken_4 (by decide) (fun _ => ?_) (fun c9 => absurd c9 (by decide))
  refine lv_aload_n hx hb dX2_takeToken_13 rfl (lv_at hl 0 rfl) ?_
  refine va_get (D := D) (ci := 3) (v := .int 0) (C := RX2) (T := TX2) (N := 10) hx hb hts im_X2_takeToken_X2 hown hE.1 hP 0 rfl rfl 1 (by decide) (hts (.fieldLink RX2 18 "RiverBridges$Reader" "due" "I") (by decide +kernel)) (fun _ h9 => h9) rfl dX2_takeToken_14 ?_
  refine lv_tableIn (off := 39) (tgt := 56) hx hb dX2_takeToken_17 (by decide) (by decide) (by decide) (by decide) ?_
  refine lv_aload_n hx hb dX2_takeToken_56 rfl (lv_at hl 0 rfl) ?_
  refine va_get (D := D) (ci := 3) (v := .int 1) (C := RX2) (T := TX2) (N := 10) hx hb hts im_X2_takeToken_X2 hown hE.1 hP 0 rfl rfl 5 (by decide) (hts (.fieldLink RX2 31 "RiverBridges$Reader" "token" "I") (by decide +kernel)) (fun _ h9 => h9) rfl dX2_takeToken_57 ?_
  refine lv_iconst (v := 1) hx hb dX2_takeToken_60 (by decide) ?_
  refine lv_icmp_eq (tgt := 77) hx hb dX2_takeToken_61 (by decide) (fun _ => ?_) (fun c9 => absurd (by decide) c9)
  refine lv_iconst (v := 0) hx hb dX2_takeToken_77 (by decide) ?_
  have hP9 := hP.sub (ws' := [(rd, .inr (3, [.ref tp, .int 0, .int x1, .int x2, .int 0, .int 1, .int 0, .int x6, .int 0, .int 0]))]) [0] rfl
  have hD9 := hD.sub (ws' := [(rd, .inr (3, [.ref tp, .int 0, .int x1, .int x2, .int 0, .int 1, .int 0, .int x6, .int 0, .int 0]))]) [0] (by decide) rfl
  exact ss_zret () hx hb hr hlocks (by decide) hP9 hD9 hS (rfl) (Nat.le_of_ble_eq_true rfl) (Nat.le_of_ble_eq_true rfl) dX2_takeToken_78

theorem im_X2_readInto_X2 : ∀ w ∈ wsX20, w ∈ wsX2_readInto := fun _ h => List.mem_cons_of_mem _ (List.mem_append_left _ (List.mem_append_left _ (List.mem_append_right _ h)))
set_option maxHeartbeats 400000 in
set_option maxRecDepth 100000 in
theorem c_readInto (l : Launch) (D : va_G) (cI cZ cB cO cJ : ClassId) (a0 : Nat) (sz : Nat) (rd tp bt sp sf sl ss si : Nat)  : Met l yX2_readInto wsX2_readInto ({ frames := 2, cells := 0, slots := 0, locals := 34 }) (Pcs D cI cZ cB cO cJ a0 [.ref rd, .ref sp] [(rd, .inr (3, [.ref tp, .int 0, .int 0, .int 0, .int 0, .int 1, .int 0, .int 0, .int 0, .int 0])), (tp, .inr (6, [.ref bt, .int 0])), (sp, .inr (8, [.ref sf, .ref sl, .ref ss, .ref si, .int 0])), (ss, .inl (cI, 8, .inl (fun _ => 0))), (si, .inl (cZ, 8, .inl (fun _ => 0)))] sz) (va_Qi (fun (r : Int32) (u : Unit) => r = 1) (fun (u : Unit) t => va_P D vwCl [(rd, .inr (3, [.ref tp, .int 0, .int 0, .int 0, .int 0, .int 1, .int 0, .int 0, .int 0, .int 0])), (tp, .inr (6, [.ref bt, .int 0])), (sp, .inr (8, [.ref sf, .ref sl, .ref ss, .ref si, .int 0]))] t.heap ∧ va_D (va_A [(rd, .inr (3, [.ref tp, .int 0, .int 0, .int 0, .int 0, .int 1, .int 0, .int 0, .int 0, .int 0])), (tp, .inr (6, [.ref bt, .int 0])), (sp, .inr (8, [.ref sf, .ref sl, .ref ss, .ref si, .int 0])), (ss, .inl (cI, 8, .inl (fun _ => 0))), (si, .inl (cZ, 8, .inl (fun _ => 0)))] sz) [(rd, .inr (3, [.ref tp, .int 0, .int 0, .int 0, .int 0, .int 1, .int 0, .int 0, .int 0, .int 0])), (tp, .inr (6, [.ref bt, .int 0])), (sp, .inr (8, [.ref sf, .ref sl, .ref ss, .ref si, .int 0]))]) (va_A [(rd, .inr (3, [.ref tp, .int 0, .int 0, .int 0, .int 0, .int 1, .int 0, .int 0, .int 0, .int 0])), (tp, .inr (6, [.ref bt, .int 0])), (sp, .inr (8, [.ref sf, .ref sl, .ref ss, .ref si, .int 0])), (ss, .inl (cI, 8, .inl (fun _ => 0))), (si, .inl (cZ, 8, .inl (fun _ => 0)))] sz)) 0 0 (va_A [(rd, .inr (3, [.ref tp, .int 0, .int 0, .int 0, .int 0, .int 1, .int 0, .int 0, .int 0, .int 0])), (tp, .inr (6, [.ref bt, .int 0])), (sp, .inr (8, [.ref sf, .ref sl, .ref ss, .ref si, .int 0])), (ss, .inl (cI, 8, .inl (fun _ => 0))), (si, .inl (cZ, 8, .inl (fun _ => 0)))] sz) := by
  refine Met.ofW (cc := cX2_readInto) (maxL := 4) (ret := (some .boolean)) (by decide) rfl ?_
  intro p e s m args below meth c s₁ B hml hv
  obtain ⟨rfl, hsz, hP, hE, hD0, hZ⟩ := hv
  have hx := B.exec
  have hb := B.bytes
  have hr := B.returns
  have hts := atoms_spec (ws := wsX2_readInto) B.pre
  have hown : s.vm.findClass RX2 = some m.cls := findClass_of_methodNamed B.named
  have hlocks := B.notSynchronized
  have hin := (name_of_methodNamed B.named B.method).1
  subst hsz
  have hD := hD0.self (sz := s.heap.size)
  generalize hAe : va_A [(rd, .inr (3, [.ref tp, .int 0, .int 0, .int 0, .int 0, .int 1, .int 0, .int 0, .int 0, .int 0])), (tp, .inr (6, [.ref bt, .int 0])), (sp, .inr (8, [.ref sf, .ref sl, .ref ss, .ref si, .int 0])), (ss, .inl (cI, 8, .inl (fun _ => 0))), (si, .inl (cZ, 8, .inl (fun _ => 0)))] s.heap.size = A at hD hZ ⊢
  have hA : ∀ q : Nat, s.heap.size ≤ q → A q := fun q h => by rw [← hAe]; exact Or.inr h
  have hS : va_S A s.heap s.heap [] := va_S.rf
  have hP : va_P D vwCl [(rd, .inr (3, [.ref tp, .int 0, .int 0, .int 0, .int 0, .int 1, .int 0, .int 0, .int 0, .int 0])), (tp, .inr (6, [.ref bt, .int 0])), (sp, .inr (8, [.ref sf, .ref sl, .ref ss, .ref si, .int 0])), (ss, .inl (cI, 8, .inl (fun _ => 0))), (si, .inl (cZ, 8, .inl (fun _ => 0)))] s.heap := hP
  have hl := lv_entry ([.ref rd, .ref sp]) (n := 4) (Nat.le_of_ble_eq_true rfl)
  rw [lg_entry_eq]
  generalize (lg_sl ([.ref rd, .ref sp]) ++ List.replicate (4 - (lg_sl ([.ref rd, .ref sp])).length) Slot.unset).toArray = ls at hl ⊢
  have hl : lv_has ls 4 [(0, .ref rd), (1, .ref sp)] := hl
  refine lv_aload_n hx hb dX2_readInto_0 rfl (lv_at hl 0 rfl) ?_
  refine lv_iconst (v := 0) hx hb dX2_readInto_1 (by decide) ?_
  refine va_put (D := D) (ci := 3) (v := .int 0) (ty := .int) (C := RX2) (T := TX2) (N := 10) hx hb hts im_X2_readInto_X2 tyX2 tyX2_ok nmX2 hown hE.1 hP hD hS 0 rfl rfl 1 (by decide) (hts (.fieldLink RX2 18 "RiverBridges$Reader" "due" "I") (by decide +kernel)) (fun _ h9 => h9) rfl (by decide +kernel) rfl rfl (Nat.le_of_ble_eq_true rfl) dX2_readInto_2 (fun H locs hP hD hS => ?_)
  have hP : va_P D vwCl [(rd, .inr (3, [.ref tp, .int 0, .int 0, .int 0, .int 0, .int 1, .int 0, .int 0, .int 0, .int 0])), (tp, .inr (6, [.ref bt, .int 0])), (sp, .inr (8, [.ref sf, .ref sl, .ref ss, .ref si, .int 0])), (ss, .inl (cI, 8, .inl (fun _ => 0))), (si, .inl (cZ, 8, .inl (fun _ => 0)))] H := hP
  have hD : va_D A [(rd, .inr (3, [.ref tp, .int 0, .int 0, .int 0, .int 0, .int 1, .int 0, .int 0, .int 0, .int 0])), (tp, .inr (6, [.ref bt, .int 0])), (sp, .inr (8, [.ref sf, .ref sl, .ref ss, .ref si, .int 0])), (ss, .inl (cI, 8, .inl (fun _ => 0))), (si, .inl (cZ, 8, .inl (fun _ => 0)))] := hD
  refine lv_aload_n hx hb dX2_readInto_5 rfl (lv_at hl 0 rfl) ?_
  refine lv_iconst (v := 0) hx hb dX2_readInto_6 (by decide) ?_
  refine va_put (D := D) (ci := 3) (v := .int 0) (ty := .int) (C := RX2) (T := TX2) (N := 10) hx hb hts im_X2_readInto_X2 tyX2 tyX2_ok nmX2 hown hE.1 hP hD hS 0 rfl rfl 4 (by decide) (hts (.fieldLink RX2 28 "RiverBridges$Reader" "place" "I") (by decide +kernel)) (fun _ h9 => h9) rfl (by decide +kernel) rfl rfl (Nat.le_of_ble_eq_true rfl) dX2_readInto_7 (fun H locs hP hD hS => ?_)
  have hP : va_P D vwCl [(rd, .inr (3, [.ref tp, .int 0, .int 0, .int 0, .int 0, .int 1, .int 0, .int 0, .int 0, .int 0])), (tp, .inr (6, [.ref bt, .int 0])), (sp, .inr (8, [.ref sf, .ref sl, .ref ss, .ref si, .int 0])), (ss, .inl (cI, 8, .inl (fun _ => 0))), (si, .inl (cZ, 8, .inl (fun _ => 0)))] H := hP
  have hD : va_D A [(rd, .inr (3, [.ref tp, .int 0, .int 0, .int 0, .int 0, .int 1, .int 0, .int 0, .int 0, .int 0])), (tp, .inr (6, [.ref bt, .int 0])), (sp, .inr (8, [.ref sf, .ref sl, .ref ss, .ref si, .int 0])), (ss, .inl (cI, 8, .inl (fun _ => 0))), (si, .inl (cZ, 8, .inl (fun _ => 0)))] := hD
  refine lv_aload_n hx hb dX2_readInto_10 rfl (lv_at hl 0 rfl) ?_
  refine lv_iconst (v := 0) hx hb dX2_readInto_11 (by decide) ?_
  refine va_put (D := D) (ci := 3) (v := .int 0) (ty := .int) (C := RX2) (T := TX2) (N := 10) hx hb hts im_X2_readInto_X2 tyX2 tyX2_ok nmX2 hown hE.1 hP hD hS 0 rfl rfl 8 (by decide) (hts (.fieldLink RX2 40 "RiverBridges$Reader" "faultKind" "I") (by decide +kernel)) (fun _ h9 => h9) rfl (by decide +kernel) rfl rfl (Nat.le_of_ble_eq_true rfl) dX2_readInto_12 (fun H locs hP hD hS => ?_)
  have hP : va_P D vwCl [(rd, .inr (3, [.ref tp, .int 0, .int 0, .int 0, .int 0, .int 1, .int 0, .int 0, .int 0, .int 0])), (tp, .inr (6, [.ref bt, .int 0])), (sp, .inr (8, [.ref sf, .ref sl, .ref ss, .ref si, .int 0])), (ss, .inl (cI, 8, .inl (fun _ => 0))), (si, .inl (cZ, 8, .inl (fun _ => 0)))] H := hP
  have hD : va_D A [(rd, .inr (3, [.ref tp, .int 0, .int 0, .int 0, .int 0, .int 1, .int 0, .int 0, .int 0, .int 0])), (tp, .inr (6, [.ref bt, .int 0])), (sp, .inr (8, [.ref sf, .ref sl, .ref ss, .ref si, .int 0])), (ss, .inl (cI, 8, .inl (fun _ => 0))), (si, .inl (cZ, 8, .inl (fun _ => 0)))] := hD
  refine lv_aload_n hx hb dX2_readInto_15 rfl (lv_at hl 0 rfl) ?_
  refine lv_iconst (v := 0) hx hb dX2_readInto_16 (by decide) ?_
  refine va_put (D := D) (ci := 3) (v := .int 0) (ty := .int) (C := RX2) (T := TX2) (N := 10) hx hb hts im_X2_readInto_X2 tyX2 tyX2_ok nmX2 hown hE.1 hP hD hS 0 rfl rfl 9 (by decide) (hts (.fieldLink RX2 43 "RiverBridges$Reader" "faultPlace" "I") (by decide +kernel)) (fun _ h9 => h9) rfl (by decide +kernel) rfl rfl (Nat.le_of_ble_eq_true rfl) dX2_readInto_17 (fun H locs hP hD hS => ?_)
  have hP : va_P D vwCl [(rd, .inr (3, [.ref tp, .int 0, .int 0, .int 0, .int 0, .int 1, .int 0, .int 0, .int 0, .int 0])), (tp, .inr (6, [.ref bt, .int 0])), (sp, .inr (8, [.ref sf, .ref sl, .ref ss, .ref si, .int 0])), (ss, .inl (cI, 8, .inl (fun _ => 0))), (si, .inl (cZ, 8, .inl (fun _ => 0)))] H := hP
  have hD : va_D A [(rd, .inr (3, [.ref tp, .int 0, .int 0, .int 0, .int 0, .int 1, .int 0, .int 0, .int 0, .int 0])), (tp, .inr (6, [.ref bt, .int 0])), (sp, .inr (8, [.ref sf, .ref sl, .ref ss, .ref si, .int 0])), (ss, .inl (cI, 8, .inl (fun _ => 0))), (si, .inl (cZ, 8, .inl (fun _ => 0)))] := hD
  refine lv_aload_n hx hb dX2_readInto_20 rfl (lv_at hl 1 rfl) ?_
  refine ss_callv (ws := [(rd, .inr (3, [.ref tp, .int 0, .int 0, .int 0, .int 0, .int 1, .int 0, .int 0, .int 0, .int 0])), (tp, .inr (6, [.ref bt, .int 0])), (sp, .inr (8, [.ref sf, .ref sl, .ref ss, .ref si, .int 0])), (ss, .inl (cI, 8, .inl (fun _ => 0))), (si, .inl (cZ, 8, .inl (fun _ => 0)))]) (wc := [(sp, .inr (8, [.ref sf, .ref sl, .ref ss, .ref si, .int 0])), (ss, .inl (cI, 8, .inl (fun _ => 0))), (si, .inl (cZ, 8, .inl (fun _ => 0)))]) (wr := [(rd, .inr (3, [.ref tp, .int 0, .int 0, .int 0, .int 0, .int 1, .int 0, .int 0, .int 0, .int 0])), (tp, .inr (6, [.ref bt, .int 0]))]) [2, 3, 4] [0, 1] (va_runV (As := []) (rest := []) ⟨hx, hb, hml, hown, hts⟩ (c_Tt_clear l D cI cZ cB cO cJ a0 H.size sp sf sl ss si (fun _ => 0) (fun _ => 0) 0) (cwV 0 hts gX2_readInto_X7_clear rfl rfl rfl (by decide +kernel) ⟨Nat.le_of_ble_eq_true rfl, Nat.le_of_ble_eq_true rfl⟩) (preV_std (wc := [(sp, .inr (8, [.ref sf, .ref sl, .ref ss, .ref si, .int 0])), (ss, .inl (cI, 8, .inl (fun _ => 0))), (si, .inl (cZ, 8, .inl (fun _ => 0)))]) [2, 3, 4] hE hZ hA hS hP hD rfl (by decide) (fun h9 => va_recv hE.1 h9 (ci := 8) (q0 := 0) rfl rfl)) rfl rfl hl.1 rfl (lv_room (Nat.le_of_ble_eq_true rfl)) dX2_readInto_21 ⟨Nat.le_of_ble_eq_true rfl, Nat.le_of_ble_eq_true rfl⟩) hP hD hS hA rfl rfl (by decide) (by decide) (fun u H locs hw hP hD hS => ?_)
  obtain ⟨g1, g2⟩ := u
  try dsimp only at hw
  have hP : va_P D vwCl [(rd, .inr (3, [.ref tp, .int 0, .int 0, .int 0, .int 0, .int 1, .int 0, .int 0, .int 0, .int 0])), (tp, .inr (6, [.ref bt, .int 0])), (sp, .inr (8, [.ref sf, .ref sl, .ref ss, .ref si, .int 0])), (ss, .inl (cI, 8, .inl g1)), (si, .inl (cZ, 8, .inl g2))] H := hP
  have hD : va_D A [(rd, .inr (3, [.ref tp, .int 0, .int 0, .int 0, .int 0, .int 1, .int 0, .int 0, .int 0, .int 0])), (tp, .inr (6, [.ref bt, .int 0])), (sp, .inr (8, [.ref sf, .ref sl, .ref ss, .ref si, .int 0])), (ss, .inl (cI, 8, .inl g1)), (si, .inl (cZ, 8, .inl g2))] := hD
  refine lv_iconst (v := 1) hx hb dX2_readInto_24 (by decide) ?_
  refine lv_istore_n (lv' := [(2, .int 1), (0, .ref rd), (1, .ref sp)]) hx hb dX2_readInto_25 rfl hl (by decide) rfl (fun ls hl => ?_)
  refine lv_iconst (v := 0) hx hb dX2_readInto_26 (by decide) ?_
  refine lv_istore_n (lv' := [(3, .int 0), (2, .int 1), (0, .ref rd), (1, .ref sp)]) hx hb dX2_readInto_27 rfl hl (by decide) rfl (fun ls hl => ?_)
  refine lv_iload_n hx hb dX2_readInto_28 rfl (lv_at hl 0 rfl) ?_
  refine lv_sipush (v := 400) hx hb dX2_readInto_29 (by decide) ?_
  refine lv_icmp_gt (tgt := 55) hx hb dX2_readInto_32 (by decide) (fun c9 => absurd c9 (by decide)) (fun _ => ?_)
  refine lv_iload_n hx hb dX2_readInto_35 rfl (lv_at hl 1 rfl) ?_
  refine lv_if_eq (tgt := 55) hx hb dX2_readInto_36 (by decide) (fun c9 => absurd c9 (by decide)) (fun _ => ?_)
  refine lv_aload_n hx hb dX2_readInto_39 rfl (lv_at hl 2 rfl) ?_
  refine ss_callv (ws := [(rd, .inr (3, [.ref tp, .int 0, .int 0, .int 0, .int 0, .int 1, .int 0, .int 0, .int 0, .int 0])), (tp, .inr (6, [.ref bt, .int 0])), (sp, .inr (8, [.ref sf, .ref sl, .ref ss, .ref si, .int 0])), (ss, .inl (cI, 8, .inl g1)), (si, .inl (cZ, 8, .inl g2))]) (wc := [(rd, .inr (3, [.ref tp, .int 0, .int 0, .int 0, .int 0, .int 1, .int 0, .int 0, .int 0, .int 0])), (tp, .inr (6, [.ref bt, .int 0]))]) (wr := [(sp, .inr (8, [.ref sf, .ref sl, .ref ss, .ref si, .int 0])), (ss, .inl (cI, 8, .inl g1)), (si, .inl (cZ, 8, .inl g2))]) [0, 1] [2, 3, 4] (va_runV (As := []) (rest := []) ⟨hx, hb, hml, hown, hts⟩ (c_advance l D cI cZ cB cO cJ a0 H.size rd tp bt 0 0 1 0 0) (cwV 0 hts gX2_readInto_X2_advance rfl rfl rfl (by decide +kernel) ⟨Nat.le_of_ble_eq_true rfl, Nat.le_of_ble_eq_true rfl⟩) (preV_std (wc := [(rd, .inr (3, [.ref tp, .int 0, .int 0, .int 0, .int 0, .int 1, .int 0, .int 0, .int 0, .int 0])), (tp, .inr (6, [.ref bt, .int 0]))]) [0, 1] hE hZ hA hS hP hD rfl (by decide) (fun h9 => va_recv hE.1 h9 (ci := 3) (q0 := 0) rfl rfl)) rfl rfl hl.1 rfl (lv_room (Nat.le_of_ble_eq_true rfl)) dX2_readInto_40 ⟨Nat.le_of_ble_eq_true rfl, Nat.le_of_ble_eq_true rfl⟩) hP hD hS hA rfl rfl (by decide) (by decide) (fun u H locs hw hP hD hS => ?_)
  try dsimp only at hw
  have hP : va_P D vwCl [(sp, .inr (8, [.ref sf, .ref sl, .ref ss, .ref si, .int 0])), (ss, .inl (cI, 8, .inl g1)), (si, .inl (cZ, 8, .inl g2)), (rd, .inr (3, [.ref tp, .int 0, .int 0, .int 0, .int 0, .int 1, .int 0, .int 0, .int 0, .int 0])), (tp, .inr (6, [.ref bt, .int 0]))] H := hP
  have hD : va_D A [(sp, .inr (8, [.ref sf, .ref sl, .ref ss, .ref si, .int 0])), (ss, .inl (cI, 8, .inl g1)), (si, .inl (cZ, 8, .inl g2)), (rd, .inr (3, [.ref tp, .int 0, .int 0, .int 0, .int 0, .int 1, .int 0, .int 0, .int 0, .int 0])), (tp, .inr (6, [.ref bt, .int 0]))] := hD
  refine lv_aload_n hx hb dX2_readInto_43 rfl (lv_at hl 2 rfl) ?_
  refine lv_aload_n hx hb dX2_readInto_44 rfl (lv_at hl 3 rfl) ?_
  refine ss_calli (ws := [(sp, .inr (8, [.ref sf, .ref sl, .ref ss, .ref si, .int 0])), (ss, .inl (cI, 8, .inl g1)), (si, .inl (cZ, 8, .inl g2)), (rd, .inr (3, [.ref tp, .int 0, .int 0, .int 0, .int 0, .int 1, .int 0, .int 0, .int 0, .int 0])), (tp, .inr (6, [.ref bt, .int 0]))]) (wc := [(rd, .inr (3, [.ref tp, .int 0, .int 0, .int 0, .int 0, .int 1, .int 0, .int 0, .int 0, .int 0]))]) (wr := [(sp, .inr (8, [.ref sf, .ref sl, .ref ss, .ref si, .int 0])), (ss, .inl (cI, 8, .inl g1)), (si, .inl (cZ, 8, .inl g2)), (tp, .inr (6, [.ref bt, .int 0]))]) [3] [0, 1, 2, 4] (va_runV (As := [.ref sp]) (rest := []) ⟨hx, hb, hml, hown, hts⟩ (c_takeToken l D cI cZ cB cO cJ a0 H.size rd tp sp 0 0 0) (cwV 1 hts gX2_readInto_X2_takeToken rfl rfl rfl (by decide +kernel) ⟨Nat.le_of_ble_eq_true rfl, Nat.le_of_ble_eq_true rfl⟩) (preV_std (wc := [(rd, .inr (3, [.ref tp, .int 0, .int 0, .int 0, .int 0, .int 1, .int 0, .int 0, .int 0, .int 0]))]) [3] hE hZ hA hS hP hD rfl (by decide) (fun h9 => va_recv hE.1 h9 (ci := 3) (q0 := 0) rfl rfl)) rfl rfl hl.1 rfl (lv_room (Nat.le_of_ble_eq_true rfl)) dX2_readInto_45 ⟨Nat.le_of_ble_eq_true rfl, Nat.le_of_ble_eq_true rfl⟩) hP hD hS hA rfl rfl (by decide) (by decide) (fun r3 u H locs hw hP hD hS => ?_)
  try dsimp only at hw
  subst hw
  have hP : va_P D vwCl [(sp, .inr (8, [.ref sf, .ref sl, .ref ss, .ref si, .int 0])), (ss, .inl (cI, 8, .inl g1)), (si, .inl (cZ, 8, .inl g2)), (tp, .inr (6, [.ref bt, .int 0])), (rd, .inr (3, [.ref tp, .int 0, .int 0, .int 0, .int 0, .int 1, .int 0, .int 0, .int 0, .int 0]))] H := hP
  have hD : va_D A [(sp, .inr (8, [.ref sf, .ref sl, .ref ss, .ref si, .int 0])), (ss, .inl (cI, 8, .inl g1)), (si, .inl (cZ, 8, .inl g2)), (tp, .inr (6, [.ref bt, .int 0])), (rd, .inr (3, [.ref tp, .int 0, .int 0, .int 0, .int 0, .int 1, .int 0, .int 0, .int 0, .int 0]))] := hD
  refine lv_istore_n (lv' := [(2, .int 0), (3, .int 0), (0, .ref rd), (1, .ref sp)]) hx hb dX2_readInto_48 rfl hl (by decide) rfl (fun ls hl => ?_)
  refine lv_iinc (v := 1) (lv' := [(3, .int 1), (2, .int 0), (0, .ref rd), (1, .ref sp)]) hx hb dX2_readInto_49 hl (k := 1) rfl (by decide) (by decide) rfl (fun ls hl => ?_)
  refine lv_goto (tgt := 28) hx hb dX2_readInto_52 (by decide) ?_
  refine lv_iload_n hx hb dX2_readInto_28 rfl (lv_at hl 0 rfl) ?_
  refine lv_sipush (v := 400) hx hb dX2_readInto_29 (by decide) ?_
  refine lv_icmp_gt (tgt := 55) hx hb dX2_readInto_32 (by decide) (fun c9 => absurd c9 (by decide)) (fun _ => ?_)
  refine lv_iload_n hx hb dX2_readInto_35 rfl (lv_at hl 1 rfl) ?_
  refine lv_if_eq (tgt := 55) hx hb dX2_readInto_36 (by decide) (fun _ => ?_) (fun c9 => absurd (by decide) c9)
  refine lv_aload_n hx hb dX2_readInto_55 rfl (lv_at hl 2 rfl) ?_
  refine va_get (D := D) (ci := 3) (v := .int 0) (C := RX2) (T := TX2) (N := 10) hx hb hts im_X2_readInto_X2 hown hE.1 hP 4 rfl rfl 8 (by decide) (hts (.fieldLink RX2 40 "RiverBridges$Reader" "faultKind" "I") (by decide +kernel)) (fun _ h9 => h9) rfl dX2_readInto_56 ?_
  refine lv_if_ne (tgt := 66) hx hb dX2_readInto_59 (by decide) (fun c9 => absurd (by decide) c9) (fun _ => ?_)
  refine lv_iconst (v := 1) hx hb dX2_readInto_62 (by decide) ?_
  refine lv_goto (tgt := 67) hx hb dX2_readInto_63 (by decide) ?_
  have hP9 := hP.sub (ws' := [(rd, .inr (3, [.ref tp, .int 0, .int 0, .int 0, .int 0, .int 1, .int 0, .int 0, .int 0, .int 0])), (tp, .inr (6, [.ref bt, .int 0])), (sp, .inr (8, [.ref sf, .ref sl, .ref ss, .ref si, .int 0]))]) [4, 3, 0] rfl
  have hD9 := hD.sub (ws' := [(rd, .inr (3, [.ref tp, .int 0, .int 0, .int 0, .int 0, .int 1, .int 0, .int 0, .int 0, .int 0])), (tp, .inr (6, [.ref bt, .int 0])), (sp, .inr (8, [.ref sf, .ref sl, .ref ss, .ref si, .int 0]))]) [4, 3, 0] (by decide) rfl
  exact ss_zret () hx hb hr hlocks (by decide) hP9 hD9 hS (rfl) (Nat.le_of_ble_eq_true rfl) (Nat.le_of_ble_eq_true rfl) dX2_readInto_67

theorem im_X8_timetable_X2 : ∀ w ∈ wsX20, w ∈ wsX8_timetable := fun _ h => List.mem_cons_of_mem _ (List.mem_append_left _ (List.mem_append_right _ h))
theorem im_X8_timetable_X3 : ∀ w ∈ wsX30, w ∈ wsX8_timetable := fun _ h => List.mem_cons_of_mem _ (List.mem_append_left _ (List.mem_append_left _ (List.mem_append_left _ (List.mem_append_right _ h))))
theorem im_X8_timetable_X5 : ∀ w ∈ wsX50, w ∈ wsX8_timetable := fun _ h => List.mem_cons_of_mem _ (List.mem_append_left _ (List.mem_append_left _ (List.mem_append_right _ h)))
theorem im_X8_timetable_X7 : ∀ w ∈ wsX70, w ∈ wsX8_timetable := fun _ h => List.mem_cons_of_mem _ (List.mem_append_right _ h)
theorem im_X8_timetable_X8 : ∀ w ∈ wsX80, w ∈ wsX8_timetable := fun _ h => List.mem_cons_of_mem _ (List.mem_append_left _ (List.mem_append_left _ (List.mem_append_left _ (List.mem_append_left _ (List.mem_append_right _ h)))))
set_option maxHeartbeats 400000 in
set_option maxRecDepth 100000 in
theorem c_timetable (l : Launch) (D : va_G) (cI cZ cB cO cJ : ClassId) (a0 : Nat) (sz : Nat) (rb rd tp bt rv td br sh ke tt sp sf sl ss si : Nat)  : Met l yX8_timetable wsX8_timetable ({ frames := 3, cells := 0, slots := 0, locals := 57 }) (Pcs D cI cZ cB cO cJ a0 [.ref rb] [(rb, .inr (9, [.ref rd, .ref tp, .ref rv, .ref sp, .int 0])), (rd, .inr (3, [.ref tp, .int 0, .int 0, .int 0, .int 0, .int 1, .int 0, .int 0, .int 0, .int 0])), (tp, .inr (6, [.ref bt, .int 0])), (rv, .inr (4, [.ref td, .ref br, .ref sh, .ref ke, .ref tt, .int 5, .int 0])), (sp, .inr (8, [.ref sf, .ref sl, .ref ss, .ref si, .int 0])), (ss, .inl (cI, 8, .inl (fun _ => 0))), (si, .inl (cZ, 8, .inl (fun _ => 0)))] sz) (va_Qi (fun (r : Int32) (u : Unit) => r = 0) (fun (u : Unit) t => va_P D vwCl [] t.heap ∧ va_D (va_A [(rb, .inr (9, [.ref rd, .ref tp, .ref rv, .ref sp, .int 0])), (rd, .inr (3, [.ref tp, .int 0, .int 0, .int 0, .int 0, .int 1, .int 0, .int 0, .int 0, .int 0])), (tp, .inr (6, [.ref bt, .int 0])), (rv, .inr (4, [.ref td, .ref br, .ref sh, .ref ke, .ref tt, .int 5, .int 0])), (sp, .inr (8, [.ref sf, .ref sl, .ref ss, .ref si, .int 0])), (ss, .inl (cI, 8, .inl (fun _ => 0))), (si, .inl (cZ, 8, .inl (fun _ => 0)))] sz) []) (va_A [(rb, .inr (9, [.ref rd, .ref tp, .ref rv, .ref sp, .int 0])), (rd, .inr (3, [.ref tp, .int 0, .int 0, .int 0, .int 0, .int 1, .int 0, .int 0, .int 0, .int 0])), (tp, .inr (6, [.ref bt, .int 0])), (rv, .inr (4, [.ref td, .ref br, .ref sh, .ref ke, .ref tt, .int 5, .int 0])), (sp, .inr (8, [.ref sf, .ref sl, .ref ss, .ref si, .int 0])), (ss, .inl (cI, 8, .inl (fun _ => 0))), (si, .inl (cZ, 8, .inl (fun _ => 0)))] sz)) 0 0 (va_A [(rb, .inr (9, [.ref rd, .ref tp, .ref rv, .ref sp, .int 0])), (rd, .inr (3, [.ref tp, .int 0, .int 0, .int 0, .int 0, .int 1, .int 0, .int 0, .int 0, .int 0])), (tp, .inr (6, [.ref bt, .int 0])), (rv, .inr (4, [.ref td, .ref br, .ref sh, .ref ke, .ref tt, .int 5, .int 0])), (sp, .inr (8, [.ref sf, .ref sl, .ref ss, .ref si, .int 0])), (ss, .inl (cI, 8, .inl (fun _ => 0))), (si, .inl (cZ, 8, .inl (fun _ => 0)))] sz) := by
  refine Met.ofW (cc := cX8_timetable) (maxL := 3) (ret := (some .int)) (by decide) rfl ?_
  intro p e s m args below meth c s₁ B hml hv
  obtain ⟨rfl, hsz, hP, hE, hD0, hZ⟩ := hv
  have hx := B.exec
  have hb := B.bytes
  have hr := B.returns
  have hts := atoms_spec (ws := wsX8_timetable) B.pre
  have hown : s.vm.findClass RX8 = some m.cls := findClass_of_methodNamed B.named
  have hlocks := B.notSynchronized
  have hin := (name_of_methodNamed B.named B.method).1
  subst hsz
  have hD := hD0.self (sz := s.heap.size)
  generalize hAe : va_A [(rb, .inr (9, [.ref rd, .ref tp, .ref rv, .ref sp, .int 0])), (rd, .inr (3, [.ref tp, .int 0, .int 0, .int 0, .int 0, .int 1, .int 0, .int 0, .int 0, .int 0])), (tp, .inr (6, [.ref bt, .int 0])), (rv, .inr (4, [.ref td, .ref br, .ref sh, .ref ke, .ref tt, .int 5, .int 0])), (sp, .inr (8, [.ref sf, .ref sl, .ref ss, .ref si, .int 0])), (ss, .inl (cI, 8, .inl (fun _ => 0))), (si, .inl (cZ, 8, .inl (fun _ => 0)))] s.heap.size = A at hD hZ ⊢
  have hA : ∀ q : Nat, s.heap.size ≤ q → A q := fun q h => by rw [← hAe]; exact Or.inr h
  have hS : va_S A s.heap s.heap [] := va_S.rf
  have hP : va_P D vwCl [(rb, .inr (9, [.ref rd, .ref tp, .ref rv, .ref sp, .int 0])), (rd, .inr (3, [.ref tp, .int 0, .int 0, .int 0, .int 0, .int 1, .int 0, .int 0, .int 0, .int 0])), (tp, .inr (6, [.ref bt, .int 0])), (rv, .inr (4, [.ref td, .ref br, .ref sh, .ref ke, .ref tt, .int 5, .int 0])), (sp, .inr (8, [.ref sf, .ref sl, .ref ss, .ref si, .int 0])), (ss, .inl (cI, 8, .inl (fun _ => 0))), (si, .inl (cZ, 8, .inl (fun _ => 0)))] s.heap := hP
  have hl := lv_entry ([.ref rb]) (n := 3) (Nat.le_of_ble_eq_true rfl)
  rw [lg_entry_eq]
  generalize (lg_sl ([.ref rb]) ++ List.replicate (3 - (lg_sl ([.ref rb])).length) Slot.unset).toArray = ls at hl ⊢
  have hl : lv_has ls 3 [(0, .ref rb)] := hl
  refine lv_aload_n hx hb dX8_timetable_0 rfl (lv_at hl 0 rfl) ?_
  refine va_get (D := D) (ci := 9) (v := .ref rv) (C := RX8) (T := TX8) (N := 5) hx hb hts im_X8_timetable_X8 hown hE.1 hP 0 rfl rfl 2 (by decide) (hts (.fieldLink RX8 24 "RiverBridges" "river" "LRiverBridges$River;") (by decide +kernel)) (fun _ h9 => h9) rfl dX8_timetable_1 ?_
  refine va_get (D := D) (ci := 4) (v := .int 0) (C := RX3) (T := TX3) (N := 7) hx hb hts im_X8_timetable_X3 hown hE.1 hP 3 rfl rfl 6 (by decide) (hts (.fieldLink RX8 56 "RiverBridges$River" "minute" "I") (by decide +kernel)) (fun _ h9 => h9) rfl dX8_timetable_4 ?_
  refine lv_if_eq (tgt := 22) hx hb dX8_timetable_7 (by decide) (fun _ => ?_) (fun c9 => absurd (by decide) c9)
  refine lv_aload_n hx hb dX8_timetable_22 rfl (lv_at hl 0 rfl) ?_
  refine va_get (D := D) (ci := 9) (v := .ref rd) (C := RX8) (T := TX8) (N := 5) hx hb hts im_X8_timetable_X8 hown hE.1 hP 0 rfl rfl 0 (by decide) (hts (.fieldLink RX8 10 "RiverBridges" "reader" "LRiverBridges$Reader;") (by decide +kernel)) (fun _ h9 => h9) rfl dX8_timetable_23 ?_
  refine lv_aload_n hx hb dX8_timetable_26 rfl (lv_at hl 0 rfl) ?_
  refine va_get (D := D) (ci := 9) (v := .ref sp) (C := RX8) (T := TX8) (N := 5) hx hb hts im_X8_timetable_X8 hown hE.1 hP 0 rfl rfl 3 (by decide) (hts (.fieldLink RX8 31 "RiverBridges" "spare" "LRiverBridges$Timetable;") (by decide +kernel)) (fun _ h9 => h9) rfl dX8_timetable_27 ?_
  refine ss_calli (ws := [(rb, .inr (9, [.ref rd, .ref tp, .ref rv, .ref sp, .int 0])), (rd, .inr (3, [.ref tp, .int 0, .int 0, .int 0, .int 0, .int 1, .int 0, .int 0, .int 0, .int 0])), (tp, .inr (6, [.ref bt, .int 0])), (rv, .inr (4, [.ref td, .ref br, .ref sh, .ref ke, .ref tt, .int 5, .int 0])), (sp, .inr (8, [.ref sf, .ref sl, .ref ss, .ref si, .int 0])), (ss, .inl (cI, 8, .inl (fun _ => 0))), (si, .inl (cZ, 8, .inl (fun _ => 0)))]) (wc := [(rd, .inr (3, [.ref tp, .int 0, .int 0, .int 0, .int 0, .int 1, .int 0, .int 0, .int 0, .int 0])), (tp, .inr (6, [.ref bt, .int 0])), (sp, .inr (8, [.ref sf, .ref sl, .ref ss, .ref si, .int 0])), (ss, .inl (cI, 8, .inl (fun _ => 0))), (si, .inl (cZ, 8, .inl (fun _ => 0)))]) (wr := [(rb, .inr (9, [.ref rd, .ref tp, .ref rv, .ref sp, .int 0])), (rv, .inr (4, [.ref td, .ref br, .ref sh, .ref ke, .ref tt, .int 5, .int 0]))]) [1, 2, 4, 5, 6] [0, 3] (va_runV (As := [.ref sp]) (rest := []) ⟨hx, hb, hml, hown, hts⟩ (c_readInto l D cI cZ cB cO cJ a0 s.heap.size rd tp bt sp sf sl ss si) (cwV 1 hts gX8_timetable_X2_readInto rfl rfl rfl (by decide +kernel) ⟨Nat.le_of_ble_eq_true rfl, Nat.le_of_ble_eq_true rfl⟩) (preV_std (wc := [(rd, .inr (3, [.ref tp, .int 0, .int 0, .int 0, .int 0, .int 1, .int 0, .int 0, .int 0, .int 0])), (tp, .inr (6, [.ref bt, .int 0])), (sp, .inr (8, [.ref sf, .ref sl, .ref ss, .ref si, .int 0])), (ss, .inl (cI, 8, .inl (fun _ => 0))), (si, .inl (cZ, 8, .inl (fun _ => 0)))]) [1, 2, 4, 5, 6] hE hZ hA hS hP hD rfl (by decide) (fun h9 => va_recv hE.1 h9 (ci := 3) (q0 := 0) rfl rfl)) rfl rfl hl.1 rfl (lv_room (Nat.le_of_ble_eq_true rfl)) dX8_timetable_30 ⟨Nat.le_of_ble_eq_true rfl, Nat.le_of_ble_eq_true rfl⟩) hP hD hS hA rfl rfl (by decide) (by decide) (fun r1 u H locs hw hP hD hS => ?_)
  try dsimp only at hw
  subst hw
  have hP : va_P D vwCl [(rb, .inr (9, [.ref rd, .ref tp, .ref rv, .ref sp, .int 0])), (rv, .inr (4, [.ref td, .ref br, .ref sh, .ref ke, .ref tt, .int 5, .int 0])), (rd, .inr (3, [.ref tp, .int 0, .int 0, .int 0, .int 0, .int 1, .int 0, .int 0, .int 0, .int 0])), (tp, .inr (6, [.ref bt, .int 0])), (sp, .inr (8, [.ref sf, .ref sl, .ref ss, .ref si, .int 0]))] H := hP
  have hD : va_D A [(rb, .inr (9, [.ref rd, .ref tp, .ref rv, .ref sp, .int 0])), (rv, .inr (4, [.ref td, .ref br, .ref sh, .ref ke, .ref tt, .int 5, .int 0])), (rd, .inr (3, [.ref tp, .int 0, .int 0, .int 0, .int 0, .int 1, .int 0, .int 0, .int 0, .int 0])), (tp, .inr (6, [.ref bt, .int 0])), (sp, .inr (8, [.ref sf, .ref sl, .ref ss, .ref si, .int 0]))] := hD
  refine lv_istore_n (lv' := [(1, .int 1), (0, .ref rb)]) hx hb dX8_timetable_33 rfl hl (by decide) rfl (fun ls hl => ?_)
  refine lv_aload_n hx hb dX8_timetable_34 rfl (lv_at hl 1 rfl) ?_
  refine va_get (D := D) (ci := 9) (v := .ref tp) (C := RX8) (T := TX8) (N := 5) hx hb hts im_X8_timetable_X8 hown hE.1 hP 0 rfl rfl 1 (by decide) (hts (.fieldLink RX8 20 "RiverBridges" "tape" "LRiverBridges$Tape;") (by decide +kernel)) (fun _ h9 => h9) rfl dX8_timetable_35 ?_
  refine lv_iconst (v := 0) hx hb dX8_timetable_38 (by decide) ?_
  refine va_put (D := D) (ci := 6) (v := .int 0) (ty := .int) (C := RX5) (T := TX5) (N := 2) hx hb hts im_X8_timetable_X5 tyX5 tyX5_ok nmX5 hown hE.1 hP hD hS 3 rfl rfl 1 (by decide) (hts (.fieldLink RX8 49 "RiverBridges$Tape" "size" "I") (by decide +kernel)) (fun _ h9 => h9) rfl (by decide +kernel) rfl rfl (Nat.le_of_ble_eq_true rfl) dX8_timetable_39 (fun H locs hP hD hS => ?_)
  have hP : va_P D vwCl [(rb, .inr (9, [.ref rd, .ref tp, .ref rv, .ref sp, .int 0])), (rv, .inr (4, [.ref td, .ref br, .ref sh, .ref ke, .ref tt, .int 5, .int 0])), (rd, .inr (3, [.ref tp, .int 0, .int 0, .int 0, .int 0, .int 1, .int 0, .int 0, .int 0, .int 0])), (tp, .inr (6, [.ref bt, .int 0])), (sp, .inr (8, [.ref sf, .ref sl, .ref ss, .ref si, .int 0]))] H := hP
  have hD : va_D A [(rb, .inr (9, [.ref rd, .ref tp, .ref rv, .ref sp, .int 0])), (rv, .inr (4, [.ref td, .ref br, .ref sh, .ref ke, .ref tt, .int 5, .int 0])), (rd, .inr (3, [.ref tp, .int 0, .int 0, .int 0, .int 0, .int 1, .int 0, .int 0, .int 0, .int 0])), (tp, .inr (6, [.ref bt, .int 0])), (sp, .inr (8, [.ref sf, .ref sl, .ref ss, .ref si, .int 0]))] := hD
  refine lv_aload_n hx hb dX8_timetable_42 rfl (lv_at hl 1 rfl) ?_
  refine lv_aload_n hx hb dX8_timetable_43 rfl (lv_at hl 1 rfl) ?_
  refine va_get (D := D) (ci := 9) (v := .ref rd) (C := RX8) (T := TX8) (N := 5) hx hb hts im_X8_timetable_X8 hown hE.1 hP 0 rfl rfl 0 (by decide) (hts (.fieldLink RX8 10 "RiverBridges" "reader" "LRiverBridges$Reader;") (by decide +kernel)) (fun _ h9 => h9) rfl dX8_timetable_44 ?_
  refine va_get (D := D) (ci := 3) (v := .int 0) (C := RX2) (T := TX2) (N := 10) hx hb hts im_X8_timetable_X2 hown hE.1 hP 2 rfl rfl 8 (by decide) (hts (.fieldLink RX8 91 "RiverBridges$Reader" "faultKind" "I") (by decide +kernel)) (fun _ h9 => h9) rfl dX8_timetable_47 ?_
  refine va_put (D := D) (ci := 9) (v := .int 0) (ty := .int) (C := RX8) (T := TX8) (N := 5) hx hb hts im_X8_timetable_X8 tyX8 tyX8_ok nmX8 hown hE.1 hP hD hS 0 rfl rfl 4 (by decide) (hts (.fieldLink RX8 35 "RiverBridges" "faultKind" "I") (by decide +kernel)) (fun _ h9 => h9) rfl (by decide +kernel) rfl rfl (Nat.le_of_ble_eq_true rfl) dX8_timetable_50 (fun H locs hP hD hS => ?_)
  have hP : va_P D vwCl [(rb, .inr (9, [.ref rd, .ref tp, .ref rv, .ref sp, .int 0])), (rv, .inr (4, [.ref td, .ref br, .ref sh, .ref ke, .ref tt, .int 5, .int 0])), (rd, .inr (3, [.ref tp, .int 0, .int 0, .int 0, .int 0, .int 1, .int 0, .int 0, .int 0, .int 0])), (tp, .inr (6, [.ref bt, .int 0])), (sp, .inr (8, [.ref sf, .ref sl, .ref ss, .ref si, .int 0]))] H := hP
  have hD : va_D A [(rb, .inr (9, [.ref rd, .ref tp, .ref rv, .ref sp, .int 0])), (rv, .inr (4, [.ref td, .ref br, .ref sh, .ref ke, .ref tt, .int 5, .int 0])), (rd, .inr (3, [.ref tp, .int 0, .int 0, .int 0, .int 0, .int 1, .int 0, .int 0, .int 0, .int 0])), (tp, .inr (6, [.ref bt, .int 0])), (sp, .inr (8, [.ref sf, .ref sl, .ref ss, .ref si, .int 0]))] := hD
  refine lv_iload_n hx hb dX8_timetable_53 rfl (lv_at hl 0 rfl) ?_
  refine lv_if_ne (tgt := 67) hx hb dX8_timetable_54 (by decide) (fun _ => ?_) (fun c9 => absurd c9 (by decide))
  refine lv_aload_n hx hb dX8_timetable_67 rfl (lv_at hl 1 rfl) ?_
  refine va_get (D := D) (ci := 9) (v := .ref rv) (C := RX8) (T := TX8) (N := 5) hx hb hts im_X8_timetable_X8 hown hE.1 hP 0 rfl rfl 2 (by decide) (hts (.fieldLink RX8 24 "RiverBridges" "river" "LRiverBridges$River;") (by decide +kernel)) (fun _ h9 => h9) rfl dX8_timetable_68 ?_
  refine va_get (D := D) (ci := 4) (v := .ref tt) (C := RX3) (T := TX3) (N := 7) hx hb hts im_X8_timetable_X3 hown hE.1 hP 1 rfl rfl 4 (by decide) (hts (.fieldLink RX8 95 "RiverBridges$River" "shutTimes" "LRiverBridges$Timetable;") (by decide +kernel)) (fun _ h9 => h9) rfl dX8_timetable_71 ?_
  refine lv_astore_n (lv' := [(2, .ref tt), (1, .int 1), (0, .ref rb)]) hx hb dX8_timetable_74 rfl hl (by decide) rfl (fun ls hl => ?_)
  refine lv_aload_n hx hb dX8_timetable_75 rfl (lv_at hl 2 rfl) ?_
  refine va_get (D := D) (ci := 9) (v := .ref rv) (C := RX8) (T := TX8) (N := 5) hx hb hts im_X8_timetable_X8 hown hE.1 hP 0 rfl rfl 2 (by decide) (hts (.fieldLink RX8 24 "RiverBridges" "river" "LRiverBridges$River;") (by decide +kernel)) (fun _ h9 => h9) rfl dX8_timetable_76 ?_
  refine lv_aload_n hx hb dX8_timetable_79 rfl (lv_at hl 2 rfl) ?_
  refine va_get (D := D) (ci := 9) (v := .ref sp) (C := RX8) (T := TX8) (N := 5) hx hb hts im_X8_timetable_X8 hown hE.1 hP 0 rfl rfl 3 (by decide) (hts (.fieldLink RX8 31 "RiverBridges" "spare" "LRiverBridges$Timetable;") (by decide +kernel)) (fun _ h9 => h9) rfl dX8_timetable_80 ?_
  refine va_put (D := D) (ci := 4) (v := .ref sp) (ty := .object "RiverBridges$Timetable") (C := RX3) (T := TX3) (N := 7) hx hb hts im_X8_timetable_X3 tyX3 tyX3_ok nmX3 hown hE.1 hP hD hS 1 rfl rfl 4 (by decide) (hts (.fieldLink RX8 95 "RiverBridges$River" "shutTimes" "LRiverBridges$Timetable;") (by decide +kernel)) (fun _ h9 => h9) rfl (by decide +kernel) rfl rfl (Nat.le_of_ble_eq_true rfl) dX8_timetable_83 (fun H locs hP hD hS => ?_)
  have hP : va_P D vwCl [(rb, .inr (9, [.ref rd, .ref tp, .ref rv, .ref sp, .int 0])), (rv, .inr (4, [.ref td, .ref br, .ref sh, .ref ke, .ref sp, .int 5, .int 0])), (rd, .inr (3, [.ref tp, .int 0, .int 0, .int 0, .int 0, .int 1, .int 0, .int 0, .int 0, .int 0])), (tp, .inr (6, [.ref bt, .int 0])), (sp, .inr (8, [.ref sf, .ref sl, .ref ss, .ref si, .int 0]))] H := hP
  have hD : va_D A [(rb, .inr (9, [.ref rd, .ref tp, .ref rv, .ref sp, .int 0])), (rv, .inr (4, [.ref td, .ref br, .ref sh, .ref ke, .ref sp, .int 5, .int 0])), (rd, .inr (3, [.ref tp, .int 0, .int 0, .int 0, .int 0, .int 1, .int 0, .int 0, .int 0, .int 0])), (tp, .inr (6, [.ref bt, .int 0])), (sp, .inr (8, [.ref sf, .ref sl, .ref ss, .ref si, .int 0]))] := hD
  refine lv_aload_n hx hb dX8_timetable_86 rfl (lv_at hl 2 rfl) ?_
  refine lv_aload_n hx hb dX8_timetable_87 rfl (lv_at hl 0 rfl) ?_
  refine va_put (D := D) (ci := 9) (v := .ref tt) (ty := .object "RiverBridges$Timetable") (C := RX8) (T := TX8) (N := 5) hx hb hts im_X8_timetable_X8 tyX8 tyX8_ok nmX8 hown hE.1 hP hD hS 0 rfl rfl 3 (by decide) (hts (.fieldLink RX8 31 "RiverBridges" "spare" "LRiverBridges$Timetable;") (by decide +kernel)) (fun _ h9 => h9) rfl (by decide +kernel) rfl rfl (Nat.le_of_ble_eq_true rfl) dX8_timetable_88 (fun H locs hP hD hS => ?_)
  have hP : va_P D vwCl [(rb, .inr (9, [.ref rd, .ref tp, .ref rv, .ref tt, .int 0])), (rv, .inr (4, [.ref td, .ref br, .ref sh, .ref ke, .ref sp, .int 5, .int 0])), (rd, .inr (3, [.ref tp, .int 0, .int 0, .int 0, .int 0, .int 1, .int 0, .int 0, .int 0, .int 0])), (tp, .inr (6, [.ref bt, .int 0])), (sp, .inr (8, [.ref sf, .ref sl, .ref ss, .ref si, .int 0]))] H := hP
  have hD : va_D A [(rb, .inr (9, [.ref rd, .ref tp, .ref rv, .ref tt, .int 0])), (rv, .inr (4, [.ref td, .ref br, .ref sh, .ref ke, .ref sp, .int 5, .int 0])), (rd, .inr (3, [.ref tp, .int 0, .int 0, .int 0, .int 0, .int 1, .int 0, .int 0, .int 0, .int 0])), (tp, .inr (6, [.ref bt, .int 0])), (sp, .inr (8, [.ref sf, .ref sl, .ref ss, .ref si, .int 0]))] := hD
  refine lv_aload_n hx hb dX8_timetable_91 rfl (lv_at hl 2 rfl) ?_
  refine va_get (D := D) (ci := 9) (v := .ref rv) (C := RX8) (T := TX8) (N := 5) hx hb hts im_X8_timetable_X8 hown hE.1 hP 0 rfl rfl 2 (by decide) (hts (.fieldLink RX8 24 "RiverBridges" "river" "LRiverBridges$River;") (by decide +kernel)) (fun _ h9 => h9) rfl dX8_timetable_92 ?_
  refine va_get (D := D) (ci := 4) (v := .ref sp) (C := RX3) (T := TX3) (N := 7) hx hb hts im_X8_timetable_X3 hown hE.1 hP 1 rfl rfl 4 (by decide) (hts (.fieldLink RX8 95 "RiverBridges$River" "shutTimes" "LRiverBridges$Timetable;") (by decide +kernel)) (fun _ h9 => h9) rfl dX8_timetable_95 ?_
  refine va_get (D := D) (ci := 8) (v := .int 0) (C := RX7) (T := TX7) (N := 5) hx hb hts im_X8_timetable_X7 hown hE.1 hP 4 rfl rfl 4 (by decide) (hts (.fieldLink RX8 98 "RiverBridges$Timetable" "bridgesTold" "I") (by decide +kernel)) (fun _ h9 => h9) rfl dX8_timetable_98 ?_
  have hP9 := hP.sub (ws' := []) [] rfl
  have hD9 := hD.sub (ws' := []) [] (by decide) rfl
  exact ss_iret () hx hb hr hlocks hP9 hD9 hS (rfl) (Nat.le_of_ble_eq_true rfl) (Nat.le_of_ble_eq_true rfl) dX8_timetable_101

theorem im_Jx4a65c_grow_92f84_Jx4a65c : ∀ w ∈ wsJx4a65c0, w ∈ wsJx4a65c_grow_92f84 := fun _ h => List.mem_cons_of_mem _ (List.mem_append_right _ h)
set_option maxHeartbeats 400000 in
set_option maxRecDepth 100000 in
theorem c_grow1 (l : Launch) (D : va_G) (cI cZ cB cO cJ : ClassId) (a0 : Nat) (sz : Nat) (h0 : Nat)  : Met l yJx4a65c_grow_92f84 wsJx4a65c_grow_92f84 ({ frames := 1, cells := 1, slots := 10, locals := 14 }) (Pcs D cI cZ cB cO cJ a0 [.ref h0, .int 1] [(h0, .inr (0, [.int 1, .ref a0, .int 0]))] sz) (va_Qr (fun (u : Unit) => True) (fun (u : Unit) (ra : Nat) t => va_P D vwCl [(h0, .inr (0, [.int 1, .ref ra, .int 0])), (ra, .inl (cO, 10, .inr (.inr (.inr (.inr (fun _ => none))))))] t.heap ∧ va_D (va_A [(h0, .inr (0, [.int 1, .ref a0, .int 0]))] sz) [(h0, .inr (0, [.int 1, .ref ra, .int 0])), (ra, .inl (cO, 10, .inr (.inr (.inr (.inr (fun _ => none))))))]) (va_A [(h0, .inr (0, [.int 1, .ref a0, .int 0]))] sz)) 1 10 (va_A [(h0, .inr (0, [.int 1, .ref a0, .int 0]))] sz) := by
  refine Met.ofW (cc := cJx4a65c_grow_92f84) (maxL := 4) (ret := (some (.array (.object "java/lang/Object")))) (by decide) rfl ?_
  intro p e s m args below meth c s₁ B hml hv
  obtain ⟨rfl, hsz, hP, hE, hD0, hZ⟩ := hv
  have hx := B.exec
  have hb := B.bytes
  have hr := B.returns
  have hts := atoms_spec (ws := wsJx4a65c_grow_92f84) B.pre
  have hown : s.vm.findClass RJx4a65c = some m.cls := findClass_of_methodNamed B.named
  have hlocks := B.notSynchronized
  have hin := (name_of_methodNamed B.named B.method).1
  subst hsz
  have hD := hD0.self (sz := s.heap.size)
  generalize hAe : va_A [(h0, .inr (0, [.int 1, .ref a0, .int 0]))] s.heap.size = A at hD hZ ⊢
  have hA : ∀ q : Nat, s.heap.size ≤ q → A q := fun q h => by rw [← hAe]; exact Or.inr h
  have hS : va_S A s.heap s.heap [] := va_S.rf
  have hP : va_P D vwCl [(h0, .inr (0, [.int 1, .ref a0, .int 0]))] s.heap := hP
  have hl := lv_entry ([.ref h0, .int 1]) (n := 4) (Nat.le_of_ble_eq_true rfl)
  rw [lg_entry_eq]
  generalize (lg_sl ([.ref h0, .int 1]) ++ List.replicate (4 - (lg_sl ([.ref h0, .int 1])).length) Slot.unset).toArray = ls at hl ⊢
  have hl : lv_has ls 4 [(0, .ref h0), (1, .int 1)] := hl
  refine lv_aload_n hx hb dJx4a65c_grow_92f84_0 rfl (lv_at hl 0 rfl) ?_
  refine va_get (D := D) (ci := 0) (v := .ref a0) (C := RJx4a65c) (T := TJx4a65c) (N := 3) hx hb hts im_Jx4a65c_grow_92f84_Jx4a65c hown hE.1 hP 0 rfl rfl 1 (by decide) (hts (.fieldLink RJx4a65c 9 "java/util/ArrayList" "elementData" "[Ljava/lang/Object;") (by decide +kernel)) (fun _ h9 => h9) rfl dJx4a65c_grow_92f84_1 ?_
  refine va_tlen (v := 0) hx hb hZ.2 hS (by decide) dJx4a65c_grow_92f84_4 ?_
  refine lv_istore_n (lv' := [(2, .int 0), (0, .ref h0), (1, .int 1)]) hx hb dJx4a65c_grow_92f84_5 rfl hl (by decide) rfl (fun ls hl => ?_)
  refine lv_iload_n hx hb dJx4a65c_grow_92f84_6 rfl (lv_at hl 0 rfl) ?_
  refine lv_if_gt (tgt := 20) hx hb dJx4a65c_grow_92f84_7 (by decide) (fun c9 => absurd c9 (by decide)) (fun _ => ?_)
  refine lv_aload_n hx hb dJx4a65c_grow_92f84_10 rfl (lv_at hl 1 rfl) ?_
  refine va_get (D := D) (ci := 0) (v := .ref a0) (C := RJx4a65c) (T := TJx4a65c) (N := 3) hx hb hts im_Jx4a65c_grow_92f84_Jx4a65c hown hE.1 hP 0 rfl rfl 1 (by decide) (hts (.fieldLink RJx4a65c 9 "java/util/ArrayList" "elementData" "[Ljava/lang/Object;") (by decide +kernel)) (fun _ h9 => h9) rfl dJx4a65c_grow_92f84_11 ?_
  refine va_gets (v := .ref a0) hx hb hZ.1 hS hown (hts (.fieldLink RJx4a65c 39 "java/util/ArrayList" "DEFAULTCAPACITY_EMPTY_ELEMENTDATA" "[Ljava/lang/Object;") (by decide +kernel)) (fun _ h9 => h9) dJx4a65c_grow_92f84_14 ?_
  refine lv_acmp_eq (rx := some a0) (ry := some a0) (tgt := 45) hx hb dJx4a65c_grow_92f84_17 (by decide) (fun _ => ?_) (fun c9 => absurd rfl c9)
  refine lv_aload_n hx hb dJx4a65c_grow_92f84_45 rfl (lv_at hl 1 rfl) ?_
  refine lv_bipush (v := 10) hx hb dJx4a65c_grow_92f84_46 (by decide) ?_
  refine lv_iload_n hx hb dJx4a65c_grow_92f84_48 rfl (lv_at hl 2 rfl) ?_
  refine va_mmax hx hb (by rw [hml]; exact hl.1.symm) hown (hts (.methodLink RJx4a65c 79 Lib.Math.max.name) (by decide +kernel)) (hts (.static Lib.Math.max.name) (by decide +kernel)) (hts (.initialized "java/lang/Math") (by decide +kernel)) (hts (.code Lib.Math.max.name Lib.Math.max.code 2 (some .int)) (by decide +kernel)) (Nat.le_of_ble_eq_true rfl) (Nat.le_of_ble_eq_true rfl) (Nat.le_of_ble_eq_true rfl) (Nat.le_of_ble_eq_true rfl) dJx4a65c_grow_92f84_49 ?_
  refine lv_topi (fun z1 ez1 => ?_)
  have ez2 : z1 = 10 := ez1.trans (by decide)
  subst ez2
  refine nw_arrO (N' := 10) hx hb hown (hts (.classLink RJx4a65c 7 "java/lang/Object") (by decide +kernel)) hE.2.2.2.2.2.2.2.2.1 hE.1 hP hD hS hA 3 rfl (by decide) (by decide) (Nat.le_of_ble_eq_true rfl) (Nat.le_of_ble_eq_true rfl) (Nat.le_of_ble_eq_true rfl) dJx4a65c_grow_92f84_52 (fun q1 H hP hD hS => ?_)
  have hP : va_P D vwCl [(h0, .inr (0, [.int 1, .ref a0, .int 0])), (q1, .inl (cO, 10, .inr (.inr (.inr (.inr (fun _ => none))))))] H := hP
  have hD : va_D A [(h0, .inr (0, [.int 1, .ref a0, .int 0])), (q1, .inl (cO, 10, .inr (.inr (.inr (.inr (fun _ => none))))))] := hD
  refine lv_dup_x1 hx hb dJx4a65c_grow_92f84_55 rfl rfl ?_
  refine va_put (D := D) (ci := 0) (v := .ref q1) (ty := .array (.object "java/lang/Object")) (C := RJx4a65c) (T := TJx4a65c) (N := 3) hx hb hts im_Jx4a65c_grow_92f84_Jx4a65c tyJx4a65c tyJx4a65c_ok nmJx4a65c hown hE.1 hP hD hS 0 rfl rfl 1 (by decide) (hts (.fieldLink RJx4a65c 9 "java/util/ArrayList" "elementData" "[Ljava/lang/Object;") (by decide +kernel)) (fun _ h9 => h9) rfl (by decide +kernel) rfl rfl (Nat.le_of_ble_eq_true rfl) dJx4a65c_grow_92f84_56 (fun H locs hP hD hS => ?_)
  have hP : va_P D vwCl [(h0, .inr (0, [.int 1, .ref q1, .int 0])), (q1, .inl (cO, 10, .inr (.inr (.inr (.inr (fun _ => none))))))] H := hP
  have hD : va_D A [(h0, .inr (0, [.int 1, .ref q1, .int 0])), (q1, .inl (cO, 10, .inr (.inr (.inr (.inr (fun _ => none))))))] := hD
  have hP9 := hP.sub (ws' := [(h0, .inr (0, [.int 1, .ref q1, .int 0])), (q1, .inl (cO, 10, .inr (.inr (.inr (.inr (fun _ => none))))))]) [0, 1] rfl
  have hD9 := hD.sub (ws' := [(h0, .inr (0, [.int 1, .ref q1, .int 0])), (q1, .inl (cO, 10, .inr (.inr (.inr (.inr (fun _ => none))))))]) [0, 1] (by decide) rfl
  exact ss_aret () hx hb hr hlocks (Or.inr ⟨_, rfl⟩) hP9 hD9 hS (trivial) (Nat.le_of_ble_eq_true rfl) (Nat.le_of_ble_eq_true rfl) dJx4a65c_grow_92f84_59

theorem im_Jx4a65c_grow_d5877_Jx4a65c : ∀ w ∈ wsJx4a65c0, w ∈ wsJx4a65c_grow_d5877 := fun _ h => List.mem_cons_of_mem _ (List.mem_append_right _ h)
set_option maxHeartbeats 400000 in
set_option maxRecDepth 100000 in
theorem c_grow0 (l : Launch) (D : va_G) (cI cZ cB cO cJ : ClassId) (a0 : Nat) (sz : Nat) (h0 : Nat)  : Met l yJx4a65c_grow_d5877 wsJx4a65c_grow_d5877 ({ frames := 2, cells := 1, slots := 10, locals := 37 }) (Pcs D cI cZ cB cO cJ a0 [.ref h0] [(h0, .inr (0, [.int 1, .ref a0, .int 0]))] sz) (va_Qr (fun (u : Unit) => True) (fun (u : Unit) (ra : Nat) t => va_P D vwCl [(h0, .inr (0, [.int 1, .ref ra, .int 0])), (ra, .inl (cO, 10, .inr (.inr (.inr (.inr (fun _ => none))))))] t.heap ∧ va_D (va_A [(h0, .inr (0, [.int 1, .ref a0, .int 0]))] sz) [(h0, .inr (0, [.int 1, .ref ra, .int 0])), (ra, .inl (cO, 10, .inr (.inr (.inr (.inr (fun _ => none))))))]) (va_A [(h0, .inr (0, [.int 1, .ref a0, .int 0]))] sz)) 1 10 (va_A [(h0, .inr (0, [.int 1, .ref a0, .int 0]))] sz) := by
  refine Met.ofW (cc := cJx4a65c_grow_d5877) (maxL := 1) (ret := (some (.array (.object "java/lang/Object")))) (by decide) rfl ?_
  intro p e s m args below meth c s₁ B hml hv
  obtain ⟨rfl, hsz, hP, hE, hD0, hZ⟩ := hv
  have hx := B.exec
  have hb := B.bytes
  have hr := B.returns
  have hts := atoms_spec (ws := wsJx4a65c_grow_d5877) B.pre
  have hown : s.vm.findClass RJx4a65c = some m.cls := findClass_of_methodNamed B.named
  have hlocks := B.notSynchronized
  have hin := (name_of_methodNamed B.named B.method).1
  subst hsz
  have hD := hD0.self (sz := s.heap.size)
  generalize hAe : va_A [(h0, .inr (0, [.int 1, .ref a0, .int 0]))] s.heap.size = A at hD hZ ⊢
  have hA : ∀ q : Nat, s.heap.size ≤ q → A q := fun q h => by rw [← hAe]; exact Or.inr h
  have hS : va_S A s.heap s.heap [] := va_S.rf
  have hP : va_P D vwCl [(h0, .inr (0, [.int 1, .ref a0, .int 0]))] s.heap := hP
  have hl := lv_entry ([.ref h0]) (n := 1) (Nat.le_of_ble_eq_true rfl)
  rw [lg_entry_eq]
  generalize (lg_sl ([.ref h0]) ++ List.replicate (1 - (lg_sl ([.ref h0])).length) Slot.unset).toArray = ls at hl ⊢
  have hl : lv_has ls 1 [(0, .ref h0)] := hl
  refine lv_aload_n hx hb dJx4a65c_grow_d5877_0 rfl (lv_at hl 0 rfl) ?_
  refine lv_aload_n hx hb dJx4a65c_grow_d5877_1 rfl (lv_at hl 0 rfl) ?_
  refine va_get (D := D) (ci := 0) (v := .int 0) (C := RJx4a65c) (T := TJx4a65c) (N := 3) hx hb hts im_Jx4a65c_grow_d5877_Jx4a65c hown hE.1 hP 0 rfl rfl 2 (by decide) (hts (.fieldLink RJx4a65c 48 "java/util/ArrayList" "size" "I") (by decide +kernel)) (fun _ h9 => h9) rfl dJx4a65c_grow_d5877_2 ?_
  refine lv_iconst (v := 1) hx hb dJx4a65c_grow_d5877_5 (by decide) ?_
  refine lx_iadd (v := 1) hx hb (by decide) dJx4a65c_grow_d5877_6 ?_
  refine ss_callr (ws := [(h0, .inr (0, [.int 1, .ref a0, .int 0]))]) (wc := [(h0, .inr (0, [.int 1, .ref a0, .int 0]))]) (wr := []) [0] [] (va_runV (As := [.int 1]) (rest := []) ⟨hx, hb, hml, hown, hts⟩ (c_grow1 l D cI cZ cB cO cJ a0 s.heap.size h0) (cwV 1 hts gJx4a65c_grow_d5877_Jx4a65c_grow_92f84 rfl rfl rfl (by decide +kernel) ⟨Nat.le_of_ble_eq_true rfl, Nat.le_of_ble_eq_true rfl⟩) (preV_std (wc := [(h0, .inr (0, [.int 1, .ref a0, .int 0]))]) [0] hE hZ hA hS hP hD rfl (by decide) (fun h9 => va_recv hE.1 h9 (ci := 0) (q0 := 0) rfl rfl)) rfl rfl hl.1 rfl (lv_room (Nat.le_of_ble_eq_true rfl)) dJx4a65c_grow_d5877_7 ⟨Nat.le_of_ble_eq_true rfl, Nat.le_of_ble_eq_true rfl⟩) hP hD hS hA rfl rfl (by decide) (by decide) (fun u ra1 H locs hw hP hD hS => ?_)
  try dsimp only at hw
  have hP : va_P D vwCl [(h0, .inr (0, [.int 1, .ref ra1, .int 0])), (ra1, .inl (cO, 10, .inr (.inr (.inr (.inr (fun _ => none))))))] H := hP
  have hD : va_D A [(h0, .inr (0, [.int 1, .ref ra1, .int 0])), (ra1, .inl (cO, 10, .inr (.inr (.inr (.inr (fun _ => none))))))] := hD
  have hP9 := hP.sub (ws' := [(h0, .inr (0, [.int 1, .ref ra1, .int 0])), (ra1, .inl (cO, 10, .inr (.inr (.inr (.inr (fun _ => none))))))]) [0, 1] rfl
  have hD9 := hD.sub (ws' := [(h0, .inr (0, [.int 1, .ref ra1, .int 0])), (ra1, .inl (cO, 10, .inr (.inr (.inr (.inr (fun _ => none))))))]) [0, 1] (by decide) rfl
  exact ss_aret () hx hb hr hlocks (Or.inr ⟨_, rfl⟩) hP9 hD9 hS (trivial) (Nat.le_of_ble_eq_true rfl) (Nat.le_of_ble_eq_true rfl) dJx4a65c_grow_d5877_10

theorem im_Jx4a65c_add_72be8_Jx4a65c : ∀ w ∈ wsJx4a65c0, w ∈ wsJx4a65c_add_72be8 := fun _ h => List.mem_cons_of_mem _ (List.mem_append_right _ h)
set_option maxHeartbeats 400000 in
set_option maxRecDepth 100000 in
theorem c_add3 (l : Launch) (D : va_G) (cI cZ cB cO cJ : ClassId) (a0 : Nat) (sz : Nat) (h0 h1 : Nat) (a1 a2 a3 a4 a5 a6 : Int32)  : Met l yJx4a65c_add_72be8 wsJx4a65c_add_72be8 ({ frames := 3, cells := 1, slots := 10, locals := 57 }) (Pcs D cI cZ cB cO cJ a0 [.ref h0, .ref h1, .ref a0, .int 0] [(h0, .inr (0, [.int 1, .ref a0, .int 0])), (h1, .inr (1, [.int a1, .int a2, .int a3, .int a4, .int a5, .int a6, .int 0, .int (-1), .int 0, .int 0, .int 0, .int 0]))] sz) (va_Qv (fun (u : Nat × (Nat → Option Nat)) => True) (fun (u : Nat × (Nat → Option Nat)) t => va_P D vwCl [(h0, .inr (0, [.int 1, .ref u.1, .int 1]))] t.heap ∧ va_D (va_A [(h0, .inr (0, [.int 1, .ref a0, .int 0])), (h1, .inr (1, [.int a1, .int a2, .int a3, .int a4, .int a5, .int a6, .int 0, .int (-1), .int 0, .int 0, .int 0, .int 0]))] sz) [(h0, .inr (0, [.int 1, .ref u.1, .int 1]))]) (va_A [(h0, .inr (0, [.int 1, .ref a0, .int 0])), (h1, .inr (1, [.int a1, .int a2, .int a3, .int a4, .int a5, .int a6, .int 0, .int (-1), .int 0, .int 0, .int 0, .int 0]))] sz)) 1 10 (va_A [(h0, .inr (0, [.int 1, .ref a0, .int 0])), (h1, .inr (1, [.int a1, .int a2, .int a3, .int a4, .int a5, .int a6, .int 0, .int (-1), .int 0, .int 0, .int 0, .int 0]))] sz) := by
  refine Met.ofW (cc := cJx4a65c_add_72be8) (maxL := 4) (ret := none) (by decide) rfl ?_
  intro p e s m args below meth c s₁ B hml hv
  obtain ⟨rfl, hsz, hP, hE, hD0, hZ⟩ := hv
  have hx := B.exec
  have hb := B.bytes
  have hr := B.returns
  have hts := atoms_spec (ws := wsJx4a65c_add_72be8) B.pre
  have hown : s.vm.findClass RJx4a65c = some m.cls := findClass_of_methodNamed B.named
  have hlocks := B.notSynchronized
  have hin := (name_of_methodNamed B.named B.method).1
  subst hsz
  have hD := hD0.self (sz := s.heap.size)
  generalize hAe : va_A [(h0, .inr (0, [.int 1, .ref a0, .int 0])), (h1, .inr (1, [.int a1, .int a2, .int a3, .int a4, .int a5, .int a6, .int 0, .int (-1), .int 0, .int 0, .int 0, .int 0]))] s.heap.size = A at hD hZ ⊢
  have hA : ∀ q : Nat, s.heap.size ≤ q → A q := fun q h => by rw [← hAe]; exact Or.inr h
  have hS : va_S A s.heap s.heap [] := va_S.rf
  have hP : va_P D vwCl [(h0, .inr (0, [.int 1, .ref a0, .int 0])), (h1, .inr (1, [.int a1, .int a2, .int a3, .int a4, .int a5, .int a6, .int 0, .int (-1), .int 0, .int 0, .int 0, .int 0]))] s.heap := hP
  have hl := lv_entry ([.ref h0, .ref h1, .ref a0, .int 0]) (n := 4) (Nat.le_of_ble_eq_true rfl)
  rw [lg_entry_eq]
  generalize (lg_sl ([.ref h0, .ref h1, .ref a0, .int 0]) ++ List.replicate (4 - (lg_sl ([.ref h0, .ref h1, .ref a0, .int 0])).length) Slot.unset).toArray = ls at hl ⊢
  have hl : lv_has ls 4 [(0, .ref h0), (1, .ref h1), (2, .ref a0), (3, .int 0)] := hl
  refine lv_iload_n hx hb dJx4a65c_add_72be8_0 rfl (lv_at hl 3 rfl) ?_
  refine lv_aload_n hx hb dJx4a65c_add_72be8_1 rfl (lv_at hl 2 rfl) ?_
  refine va_tlen (v := 0) hx hb hZ.2 hS (by decide) dJx4a65c_add_72be8_2 ?_
  refine lv_icmp_ne (tgt := 11) hx hb dJx4a65c_add_72be8_3 (by decide) (fun c9 => absurd (by decide) c9) (fun _ => ?_)
  refine lv_aload_n hx hb dJx4a65c_add_72be8_6 rfl (lv_at hl 0 rfl) ?_
  refine ss_callr (ws := [(h0, .inr (0, [.int 1, .ref a0, .int 0])), (h1, .inr (1, [.int a1, .int a2, .int a3, .int a4, .int a5, .int a6, .int 0, .int (-1), .int 0, .int 0, .int 0, .int 0]))]) (wc := [(h0, .inr (0, [.int 1, .ref a0, .int 0]))]) (wr := [(h1, .inr (1, [.int a1, .int a2, .int a3, .int a4, .int a5, .int a6, .int 0, .int (-1), .int 0, .int 0, .int 0, .int 0]))]) [0] [1] (va_runV (As := []) (rest := []) ⟨hx, hb, hml, hown, hts⟩ (c_grow0 l D cI cZ cB cO cJ a0 s.heap.size h0) (cwV 0 hts gJx4a65c_add_72be8_Jx4a65c_grow_d5877 rfl rfl rfl (by decide +kernel) ⟨Nat.le_of_ble_eq_true rfl, Nat.le_of_ble_eq_true rfl⟩) (preV_std (wc := [(h0, .inr (0, [.int 1, .ref a0, .int 0]))]) [0] hE hZ hA hS hP hD rfl (by decide) (fun h9 => va_recv hE.1 h9 (ci := 0) (q0 := 0) rfl rfl)) rfl rfl hl.1 rfl (lv_room (Nat.le_of_ble_eq_true rfl)) dJx4a65c_add_72be8_7 ⟨Nat.le_of_ble_eq_true rfl, Nat.le_of_ble_eq_true rfl⟩) hP hD hS hA rfl rfl (by decide) (by decide) (fun u ra1 H locs hw hP hD hS => ?_)
  try dsimp only at hw
  have hP : va_P D vwCl [(h1, .inr (1, [.int a1, .int a2, .int a3, .int a4, .int a5, .int a6, .int 0, .int (-1), .int 0, .int 0, .int 0, .int 0])), (h0, .inr (0, [.int 1, .ref ra1, .int 0])), (ra1, .inl (cO, 10, .inr (.inr (.inr (.inr (fun _ => none))))))] H := hP
  have hD : va_D A [(h1, .inr (1, [.int a1, .int a2, .int a3, .int a4, .int a5, .int a6, .int 0, .int (-1), .int 0, .int 0, .int 0, .int 0])), (h0, .inr (0, [.int 1, .ref ra1, .int 0])), (ra1, .inl (cO, 10, .inr (.inr (.inr (.inr (fun _ => none))))))] := hD
  refine lv_astore_n (lv' := [(2, .ref ra1), (0, .ref h0), (1, .ref h1), (3, .int 0)]) hx hb dJx4a65c_add_72be8_10 rfl hl (by decide) rfl (fun ls hl => ?_)
  refine lv_aload_n hx hb dJx4a65c_add_72be8_11 rfl (lv_at hl 0 rfl) ?_
  refine lv_iload_n hx hb dJx4a65c_add_72be8_12 rfl (lv_at hl 3 rfl) ?_
  refine lv_aload_n hx hb dJx4a65c_add_72be8_13 rfl (lv_at hl 2 rfl) ?_
  refine va_astqO hx hb hE.1 hP hD hS 2 3 0 1 rfl rfl hE.2.2.2.2.2.2.2.2.2 rfl rfl (by unfold vp_in; decide) dJx4a65c_add_72be8_14 (fun H locs hP hD hS => ?_)
  have hP : va_P D vwCl [(h1, .inr (1, [.int a1, .int a2, .int a3, .int a4, .int a5, .int a6, .int 0, .int (-1), .int 0, .int 0, .int 0, .int 0])), (h0, .inr (0, [.int 1, .ref ra1, .int 0])), (ra1, .inl (cO, 10, .inr (.inr (.inr (.inr (va_up (fun _ => none) (Int32.toNatClampNeg 0) (some h1)))))))] H := hP
  have hD : va_D A [(h1, .inr (1, [.int a1, .int a2, .int a3, .int a4, .int a5, .int a6, .int 0, .int (-1), .int 0, .int 0, .int 0, .int 0])), (h0, .inr (0, [.int 1, .ref ra1, .int 0])), (ra1, .inl (cO, 10, .inr (.inr (.inr (.inr (va_up (fun _ => none) (Int32.toNatClampNeg 0) (some h1)))))))] := hD
  generalize (va_up (fun _ => none) (Int32.toNatClampNeg 0) (some h1)) = f1 at hP hD
  refine lv_aload_n hx hb dJx4a65c_add_72be8_15 rfl (lv_at hl 1 rfl) ?_
  refine lv_iload_n hx hb dJx4a65c_add_72be8_16 rfl (lv_at hl 3 rfl) ?_
  refine lv_iconst (v := 1) hx hb dJx4a65c_add_72be8_17 (by decide) ?_
  refine lx_iadd (v := 1) hx hb (by decide) dJx4a65c_add_72be8_18 ?_
  refine va_put (D := D) (ci := 0) (v := .int 1) (ty := .int) (C := RJx4a65c) (T := TJx4a65c) (N := 3) hx hb hts im_Jx4a65c_add_72be8_Jx4a65c tyJx4a65c tyJx4a65c_ok nmJx4a65c hown hE.1 hP hD hS 1 rfl rfl 2 (by decide) (hts (.fieldLink RJx4a65c 48 "java/util/ArrayList" "size" "I") (by decide +kernel)) (fun _ h9 => h9) rfl (by decide +kernel) rfl rfl (Nat.le_of_ble_eq_true rfl) dJx4a65c_add_72be8_19 (fun H locs hP hD hS => ?_)
  have hP : va_P D vwCl [(h1, .inr (1, [.int a1, .int a2, .int a3, .int a4, .int a5, .int a6, .int 0, .int (-1), .int 0, .int 0, .int 0, .int 0])), (h0, .inr (0, [.int 1, .ref ra1, .int 1])), (ra1, .inl (cO, 10, .inr (.inr (.inr (.inr f1)))))] H := hP
  have hD : va_D A [(h1, .inr (1, [.int a1, .int a2, .int a3, .int a4, .int a5, .int a6, .int 0, .int (-1), .int 0, .int 0, .int 0, .int 0])), (h0, .inr (0, [.int 1, .ref ra1, .int 1])), (ra1, .inl (cO, 10, .inr (.inr (.inr (.inr f1)))))] := hD
  have hP9 := hP.sub (ws' := [(h0, .inr (0, [.int 1, .ref ra1, .int 1]))]) [1] rfl
  have hD9 := hD.sub (ws' := [(h0, .inr (0, [.int 1, .ref ra1, .int 1]))]) [1] (by decide) rfl
  exact ss_vret (ra1, fun _ => none) hx hb hr hlocks hP9 hD9 hS (trivial) (Nat.le_of_ble_eq_true rfl) (Nat.le_of_ble_eq_true rfl) dJx4a65c_add_72be8_22

theorem im_Jx4a65c_add_9ea2d_Jx4a65c : ∀ w ∈ wsJx4a65c0, w ∈ wsJx4a65c_add_9ea2d := fun _ h => List.mem_cons_of_mem _ (List.mem_append_right _ h)
set_option maxHeartbeats 400000 in
set_option maxRecDepth 100000 in
theorem c_add1 (l : Launch) (D : va_G) (cI cZ cB cO cJ : ClassId) (a0 : Nat) (sz : Nat) (h0 h1 : Nat) (a1 a2 a3 a4 a5 a6 : Int32)  : Met l yJx4a65c_add_9ea2d wsJx4a65c_add_9ea2d ({ frames := 4, cells := 1, slots := 10, locals := 80 }) (Pcs D cI cZ cB cO cJ a0 [.ref h0, .ref h1] [(h0, .inr (0, [.int 0, .ref a0, .int 0])), (h1, .inr (1, [.int a1, .int a2, .int a3, .int a4, .int a5, .int a6, .int 0, .int (-1), .int 0, .int 0, .int 0, .int 0]))] sz) (va_Qi (fun (r : Int32) (u : Nat) => r = 1) (fun (u : Nat) t => va_P D vwCl [(h0, .inr (0, [.int 1, .ref u, .int 1]))] t.heap ∧ va_D (va_A [(h0, .inr (0, [.int 0, .ref a0, .int 0])), (h1, .inr (1, [.int a1, .int a2, .int a3, .int a4, .int a5, .int a6, .int 0, .int (-1), .int 0, .int 0, .int 0, .int 0]))] sz) [(h0, .inr (0, [.int 1, .ref u, .int 1]))]) (va_A [(h0, .inr (0, [.int 0, .ref a0, .int 0])), (h1, .inr (1, [.int a1, .int a2, .int a3, .int a4, .int a5, .int a6, .int 0, .int (-1), .int 0, .int 0, .int 0, .int 0]))] sz)) 1 10 (va_A [(h0, .inr (0, [.int 0, .ref a0, .int 0])), (h1, .inr (1, [.int a1, .int a2, .int a3, .int a4, .int a5, .int a6, .int 0, .int (-1), .int 0, .int 0, .int 0, .int 0]))] sz) := by
  refine Met.ofW (cc := cJx4a65c_add_9ea2d) (maxL := 2) (ret := (some .boolean)) (by decide) rfl ?_
  intro p e s m args below meth c s₁ B hml hv
  obtain ⟨rfl, hsz, hP, hE, hD0, hZ⟩ := hv
  have hx := B.exec
  have hb := B.bytes
  have hr := B.returns
  have hts := atoms_spec (ws := wsJx4a65c_add_9ea2d) B.pre
  have hown : s.vm.findClass RJx4a65c = some m.cls := findClass_of_methodNamed B.named
  have hlocks := B.notSynchronized
  have hin := (name_of_methodNamed B.named B.method).1
  subst hsz
  have hD := hD0.self (sz := s.heap.size)
  generalize hAe : va_A [(h0, .inr (0, [.int 0, .ref a0, .int 0])), (h1, .inr (1, [.int a1, .int a2, .int a3, .int a4, .int a5, .int a6, .int 0, .int (-1), .int 0, .int 0, .int 0, .int 0]))] s.heap.size = A at hD hZ ⊢
  have hA : ∀ q : Nat, s.heap.size ≤ q → A q := fun q h => by rw [← hAe]; exact Or.inr h
  have hS : va_S A s.heap s.heap [] := va_S.rf
  have hP : va_P D vwCl [(h0, .inr (0, [.int 0, .ref a0, .int 0])), (h1, .inr (1, [.int a1, .int a2, .int a3, .int a4, .int a5, .int a6, .int 0, .int (-1), .int 0, .int 0, .int 0, .int 0]))] s.heap := hP
  have hl := lv_entry ([.ref h0, .ref h1]) (n := 2) (Nat.le_of_ble_eq_true rfl)
  rw [lg_entry_eq]
  generalize (lg_sl ([.ref h0, .ref h1]) ++ List.replicate (2 - (lg_sl ([.ref h0, .ref h1])).length) Slot.unset).toArray = ls at hl ⊢
  have hl : lv_has ls 2 [(0, .ref h0), (1, .ref h1)] := hl
  refine lv_aload_n hx hb dJx4a65c_add_9ea2d_0 rfl (lv_at hl 0 rfl) ?_
  refine lv_dup hx hb dJx4a65c_add_9ea2d_1 rfl ?_
  refine va_get (D := D) (ci := 0) (v := .int 0) (C := RJx4a65c) (T := TJx4a65c) (N := 3) hx hb hts im_Jx4a65c_add_9ea2d_Jx4a65c hown hE.1 hP 0 rfl rfl 0 (by decide) (hts (.fieldLink RJx4a65c 63 "java/util/ArrayList" "modCount" "I") (by decide +kernel)) (u_same (hts (.sameField "java/util/ArrayList" "java/util/AbstractList" "modCount" "I") (by decide +kernel))) rfl dJx4a65c_add_9ea2d_2 ?_
  refine lv_iconst (v := 1) hx hb dJx4a65c_add_9ea2d_5 (by decide) ?_
  refine lx_iadd (v := 1) hx hb (by decide) dJx4a65c_add_9ea2d_6 ?_
  refine va_put (D := D) (ci := 0) (v := .int 1) (ty := .int) (C := RJx4a65c) (T := TJx4a65c) (N := 3) hx hb hts im_Jx4a65c_add_9ea2d_Jx4a65c tyJx4a65c tyJx4a65c_ok nmJx4a65c hown hE.1 hP hD hS 0 rfl rfl 0 (by decide) (hts (.fieldLink RJx4a65c 63 "java/util/ArrayList" "modCount" "I") (by decide +kernel)) (u_same (hts (.sameField "java/util/ArrayList" "java/util/AbstractList" "modCount" "I") (by decide +kernel))) rfl (by decide +kernel) rfl rfl (Nat.le_of_ble_eq_true rfl) dJx4a65c_add_9ea2d_7 (fun H locs hP hD hS => ?_)
  have hP : va_P D vwCl [(h0, .inr (0, [.int 1, .ref a0, .int 0])), (h1, .inr (1, [.int a1, .int a2, .int a3, .int a4, .int a5, .int a6, .int 0, .int (-1), .int 0, .int 0, .int 0, .int 0]))] H := hP
  have hD : va_D A [(h0, .inr (0, [.int 1, .ref a0, .int 0])), (h1, .inr (1, [.int a1, .int a2, .int a3, .int a4, .int a5, .int a6, .int 0, .int (-1), .int 0, .int 0, .int 0, .int 0]))] := hD
  refine lv_aload_n hx hb dJx4a65c_add_9ea2d_10 rfl (lv_at hl 0 rfl) ?_
  refine lv_aload_n hx hb dJx4a65c_add_9ea2d_11 rfl (lv_at hl 1 rfl) ?_
  refine lv_aload_n hx hb dJx4a65c_add_9ea2d_12 rfl (lv_at hl 0 rfl) ?_
  refine va_get (D := D) (ci := 0) (v := .ref a0) (C := RJx4a65c) (T := TJx4a65c) (N := 3) hx hb hts im_Jx4a65c_add_9ea2d_Jx4a65c hown hE.1 hP 0 rfl rfl 1 (by decide) (hts (.fieldLink RJx4a65c 9 "java/util/ArrayList" "elementData" "[Ljava/lang/Object;") (by decide +kernel)) (fun _ h9 => h9) rfl dJx4a65c_add_9ea2d_13 ?_
  refine lv_aload_n hx hb dJx4a65c_add_9ea2d_16 rfl (lv_at hl 0 rfl) ?_
  refine va_get (D := D) (ci := 0) (v := .int 0) (C := RJx4a65c) (T := TJx4a65c) (N := 3) hx hb hts im_Jx4a65c_add_9ea2d_Jx4a65c hown hE.1 hP 0 rfl rfl 2 (by decide) (hts (.fieldLink RJx4a65c 48 "java/util/ArrayList" "size" "I") (by decide +kernel)) (fun _ h9 => h9) rfl dJx4a65c_add_9ea2d_17 ?_
  refine ss_callv (ws := [(h0, .inr (0, [.int 1, .ref a0, .int 0])), (h1, .inr (1, [.int a1, .int a2, .int a3, .int a4, .int a5, .int a6, .int 0, .int (-1), .int 0, .int 0, .int 0, .int 0]))]) (wc := [(h0, .inr (0, [.int 1, .ref a0, .int 0])), (h1, .inr (1, [.int a1, .int a2, .int a3, .int a4, .int a5, .int a6, .int 0, .int (-1), .int 0, .int 0, .int 0, .int 0]))]) (wr := []) [0, 1] [] (va_runV (As := [.ref h1, .ref a0, .int 0]) (rest := []) ⟨hx, hb, hml, hown, hts⟩ (c_add3 l D cI cZ cB cO cJ a0 H.size h0 h1 a1 a2 a3 a4 a5 a6) (cwV 3 hts gJx4a65c_add_9ea2d_Jx4a65c_add_72be8 rfl rfl rfl (by decide +kernel) ⟨Nat.le_of_ble_eq_true rfl, Nat.le_of_ble_eq_true rfl⟩) (preV_std (wc := [(h0, .inr (0, [.int 1, .ref a0, .int 0])), (h1, .inr (1, [.int a1, .int a2, .int a3, .int a4, .int a5, .int a6, .int 0, .int (-1), .int 0, .int 0, .int 0, .int 0]))]) [0, 1] hE hZ hA hS hP hD rfl (by decide) (fun h9 => va_recv hE.1 h9 (ci := 0) (q0 := 0) rfl rfl)) rfl rfl hl.1 rfl (lv_room (Nat.le_of_ble_eq_true rfl)) dJx4a65c_add_9ea2d_20 ⟨Nat.le_of_ble_eq_true rfl, Nat.le_of_ble_eq_true rfl⟩) hP hD hS hA rfl rfl (by decide) (by decide) (fun u H locs hw hP hD hS => ?_)
  obtain ⟨ra1, fq⟩ := u
  try dsimp only at hw
  have hP : va_P D vwCl [(h0, .inr (0, [.int 1, .ref ra1, .int 1]))] H := hP
  have hD : va_D A [(h0, .inr (0, [.int 1, .ref ra1, .int 1]))] := hD
  refine lv_iconst (v := 1) hx hb dJx4a65c_add_9ea2d_23 (by decide) ?_
  have hP9 := hP.sub (ws' := [(h0, .inr (0, [.int 1, .ref ra1, .int 1]))]) [0] rfl
  have hD9 := hD.sub (ws' := [(h0, .inr (0, [.int 1, .ref ra1, .int 1]))]) [0] (by decide) rfl
  exact ss_zret ra1 hx hb hr hlocks (by decide) hP9 hD9 hS (rfl) (Nat.le_of_ble_eq_true rfl) (Nat.le_of_ble_eq_true rfl) dJx4a65c_add_9ea2d_24

theorem im_X0_init_X0 : ∀ w ∈ wsX00, w ∈ wsX0_init := fun _ h => List.mem_cons_of_mem _ (List.mem_append_right _ h)
set_option maxHeartbeats 400000 in
set_option maxRecDepth 100000 in
theorem c_Bridge_init (l : Launch) (D : va_G) (cI cZ cB cO cJ : ClassId) (a0 : Nat) (sz : Nat) (h1 : Nat) (a1 a2 a3 a4 a5 a6 : Int32)  : Met l yX0_init wsX0_init ({ frames := 1, cells := 0, slots := 0, locals := 12 }) (Pcs D cI cZ cB cO cJ a0 [.ref h1, .int a1, .int a2, .int a3, .int a4, .int a5, .int a6] [(h1, .inr (1, [.int 0, .int 0, .int 0, .int 0, .int 0, .int 0, .int 0, .int 0, .int 0, .int 0, .int 0, .int 0]))] sz) (va_Qv (fun (u : Unit) => True) (fun (u : Unit) t => va_P D vwCl [(h1, .inr (1, [.int a1, .int a2, .int a3, .int a4, .int a5, .int a6, .int 0, .int (-1), .int 0, .int 0, .int 0, .int 0]))] t.heap ∧ va_D (va_A [(h1, .inr (1, [.int 0, .int 0, .int 0, .int 0, .int 0, .int 0, .int 0, .int 0, .int 0, .int 0, .int 0, .int 0]))] sz) [(h1, .inr (1, [.int a1, .int a2, .int a3, .int a4, .int a5, .int a6, .int 0, .int (-1), .int 0, .int 0, .int 0, .int 0]))]) (va_A [(h1, .inr (1, [.int 0, .int 0, .int 0, .int 0, .int 0, .int 0, .int 0, .int 0, .int 0, .int 0, .int 0, .int 0]))] sz)) 0 0 (va_A [(h1, .inr (1, [.int 0, .int 0, .int 0, .int 0, .int 0, .int 0, .int 0, .int 0, .int 0, .int 0, .int 0, .int 0]))] sz) := by
  refine Met.ofW (cc := cX0_init) (maxL := 7) (ret := none) (by decide) rfl ?_
  intro p e s m args below meth c s₁ B hml hv
  obtain ⟨rfl, hsz, hP, hE, hD0, hZ⟩ := hv
  have hx := B.exec
  have hb := B.bytes
  have hr := B.returns
  have hts := atoms_spec (ws := wsX0_init) B.pre
  have hown : s.vm.findClass RX0 = some m.cls := findClass_of_methodNamed B.named
  have hlocks := B.notSynchronized
  have hin := (name_of_methodNamed B.named B.method).1
  subst hsz
  have hD := hD0.self (sz := s.heap.size)
  generalize hAe : va_A [(h1, .inr (1, [.int 0, .int 0, .int 0, .int 0, .int 0, .int 0, .int 0, .int 0, .int 0, .int 0, .int 0, .int 0]))] s.heap.size = A at hD hZ ⊢
  have hA : ∀ q : Nat, s.heap.size ≤ q → A q := fun q h => by rw [← hAe]; exact Or.inr h
  have hS : va_S A s.heap s.heap [] := va_S.rf
  have hP : va_P D vwCl [(h1, .inr (1, [.int 0, .int 0, .int 0, .int 0, .int 0, .int 0, .int 0, .int 0, .int 0, .int 0, .int 0, .int 0]))] s.heap := hP
  have hl := lv_entry ([.ref h1, .int a1, .int a2, .int a3, .int a4, .int a5, .int a6]) (n := 7) (Nat.le_of_ble_eq_true rfl)
  rw [lg_entry_eq]
  generalize (lg_sl ([.ref h1, .int a1, .int a2, .int a3, .int a4, .int a5, .int a6]) ++ List.replicate (7 - (lg_sl ([.ref h1, .int a1, .int a2, .int a3, .int a4, .int a5, .int a6])).length) Slot.unset).toArray = ls at hl ⊢
  have hl : lv_has ls 7 [(0, .ref h1), (1, .int a1), (2, .int a2), (3, .int a3), (4, .int a4), (5, .int a5), (6, .int a6)] := hl
  refine lv_aload_n hx hb dX0_init_0 rfl (lv_at hl 0 rfl) ?_
  refine W.objInit hx hb hown (hts (.methodLink RX0 3 objectInit) (by decide +kernel)) (hts (.instanceMethod objectInit) (by decide +kernel)) (hts (.code objectInit ⟨#[0xb1]⟩ 1 none) (by decide +kernel)) rfl (by rw [hml]; exact hl.1) rfl dX0_init_1 (Nat.le_of_ble_eq_true rfl) (Nat.le_of_ble_eq_true rfl) ?_
  refine W.eq (g2 := F0 m 4 ls []) rfl ?_
  refine lv_aload_n hx hb dX0_init_4 rfl (lv_at hl 0 rfl) ?_
  refine lv_iconst (v := 0) hx hb dX0_init_5 (by decide) ?_
  refine va_put (D := D) (ci := 1) (v := .int 0) (ty := .int) (C := RX0) (T := TX0) (N := 12) hx hb hts im_X0_init_X0 tyX0 tyX0_ok nmX0 hown hE.1 hP hD hS 0 rfl rfl 6 (by decide) (hts (.fieldLink RX0 11 "RiverBridges$Bridge" "state" "I") (by decide +kernel)) (fun _ h9 => h9) rfl (by decide +kernel) rfl rfl (Nat.le_of_ble_eq_true rfl) dX0_init_6 (fun H locs hP hD hS => ?_)
  have hP : va_P D vwCl [(h1, .inr (1, [.int 0, .int 0, .int 0, .int 0, .int 0, .int 0, .int 0, .int 0, .int 0, .int 0, .int 0, .int 0]))] H := hP
  have hD : va_D A [(h1, .inr (1, [.int 0, .int 0, .int 0, .int 0, .int 0, .int 0, .int 0, .int 0, .int 0, .int 0, .int 0, .int 0]))] := hD
  refine lv_aload_n hx hb dX0_init_9 rfl (lv_at hl 0 rfl) ?_
  refine lv_iconst (v := -1) hx hb dX0_init_10 (by decide) ?_
  refine va_put (D := D) (ci := 1) (v := .int (-1)) (ty := .int) (C := RX0) (T := TX0) (N := 12) hx hb hts im_X0_init_X0 tyX0 tyX0_ok nmX0 hown hE.1 hP hD hS 0 rfl rfl 7 (by decide) (hts (.fieldLink RX0 15 "RiverBridges$Bridge" "ends" "I") (by decide +kernel)) (fun _ h9 => h9) rfl (by decide +kernel) rfl rfl (Nat.le_of_ble_eq_true rfl) dX0_init_11 (fun H locs hP hD hS => ?_)
  have hP : va_P D vwCl [(h1, .inr (1, [.int 0, .int 0, .int 0, .int 0, .int 0, .int 0, .int 0, .int (-1), .int 0, .int 0, .int 0, .int 0]))] H := hP
  have hD : va_D A [(h1, .inr (1, [.int 0, .int 0, .int 0, .int 0, .int 0, .int 0, .int 0, .int (-1), .int 0, .int 0, .int 0, .int 0]))] := hD
  refine lv_aload_n hx hb dX0_init_14 rfl (lv_at hl 0 rfl) ?_
  refine lv_iconst (v := 0) hx hb dX0_init_15 (by decide) ?_
  refine va_put (D := D) (ci := 1) (v := .int 0) (ty := .int) (C := RX0) (T := TX0) (N := 12) hx hb hts im_X0_init_X0 tyX0 tyX0_ok nmX0 hown hE.1 hP hD hS 0 rfl rfl 8 (by decide) (hts (.fieldLink RX0 18 "RiverBridges$Bridge" "shipsAtIt" "I") (by decide +kernel)) (fun _ h9 => h9) rfl (by decide +kernel) rfl rfl (Nat.le_of_ble_eq_true rfl) dX0_init_16 (fun H locs hP hD hS => ?_)
  have hP : va_P D vwCl [(h1, .inr (1, [.int 0, .int 0, .int 0, .int 0, .int 0, .int 0, .int 0, .int (-1), .int 0, .int 0, .int 0, .int 0]))] H := hP
  have hD : va_D A [(h1, .inr (1, [.int 0, .int 0, .int 0, .int 0, .int 0, .int 0, .int 0, .int (-1), .int 0, .int 0, .int 0, .int 0]))] := hD
  refine lv_aload_n hx hb dX0_init_19 rfl (lv_at hl 0 rfl) ?_
  refine lv_iconst (v := 0) hx hb dX0_init_20 (by decide) ?_
  refine va_put (D := D) (ci := 1) (v := .int 0) (ty := .int) (C := RX0) (T := TX0) (N := 12) hx hb hts im_X0_init_X0 tyX0 tyX0_ok nmX0 hown hE.1 hP hD hS 0 rfl rfl 9 (by decide) (hts (.fieldLink RX0 21 "RiverBridges$Bridge" "carsWaiting" "I") (by decide +kernel)) (fun _ h9 => h9) rfl (by decide +kernel) rfl rfl (Nat.le_of_ble_eq_true rfl) dX0_init_21 (fun H locs hP hD hS => ?_)
  have hP : va_P D vwCl [(h1, .inr (1, [.int 0, .int 0, .int 0, .int 0, .int 0, .int 0, .int 0, .int (-1), .int 0, .int 0, .int 0, .int 0]))] H := hP
  have hD : va_D A [(h1, .inr (1, [.int 0, .int 0, .int 0, .int 0, .int 0, .int 0, .int 0, .int (-1), .int 0, .int 0, .int 0, .int 0]))] := hD
  refine lv_aload_n hx hb dX0_init_24 rfl (lv_at hl 0 rfl) ?_
  refine lv_iconst (v := 0) hx hb dX0_init_25 (by decide) ?_
  refine va_put (D := D) (ci := 1) (v := .int 0) (ty := .int) (C := RX0) (T := TX0) (N := 12) hx hb hts im_X0_init_X0 tyX0 tyX0_ok nmX0 hown hE.1 hP hD hS 0 rfl rfl 10 (by decide) (hts (.fieldLink RX0 24 "RiverBridges$Bridge" "openings" "I") (by decide +kernel)) (fun _ h9 => h9) rfl (by decide +kernel) rfl rfl (Nat.le_of_ble_eq_true rfl) dX0_init_26 (fun H locs hP hD hS => ?_)
  have hP : va_P D vwCl [(h1, .inr (1, [.int 0, .int 0, .int 0, .int 0, .int 0, .int 0, .int 0, .int (-1), .int 0, .int 0, .int 0, .int 0]))] H := hP
  have hD : va_D A [(h1, .inr (1, [.int 0, .int 0, .int 0, .int 0, .int 0, .int 0, .int 0, .int (-1), .int 0, .int 0, .int 0, .int 0]))] := hD
  refine lv_aload_n hx hb dX0_init_29 rfl (lv_at hl 0 rfl) ?_
  refine lv_iconst (v := 0) hx hb dX0_init_30 (by decide) ?_
  refine va_put (D := D) (ci := 1) (v := .int 0) (ty := .int) (C := RX0) (T := TX0) (N := 12) hx hb hts im_X0_init_X0 tyX0 tyX0_ok nmX0 hown hE.1 hP hD hS 0 rfl rfl 11 (by decide) (hts (.fieldLink RX0 27 "RiverBridges$Bridge" "carsWaited" "I") (by decide +kernel)) (fun _ h9 => h9) rfl (by decide +kernel) rfl rfl (Nat.le_of_ble_eq_true rfl) dX0_init_31 (fun H locs hP hD hS => ?_)
  have hP : va_P D vwCl [(h1, .inr (1, [.int 0, .int 0, .int 0, .int 0, .int 0, .int 0, .int 0, .int (-1), .int 0, .int 0, .int 0, .int 0]))] H := hP
  have hD : va_D A [(h1, .inr (1, [.int 0, .int 0, .int 0, .int 0, .int 0, .int 0, .int 0, .int (-1), .int 0, .int 0, .int 0, .int 0]))] := hD
  refine lv_aload_n hx hb dX0_init_34 rfl (lv_at hl 0 rfl) ?_
  refine lv_iload_n hx hb dX0_init_35 rfl (lv_at hl 1 rfl) ?_
  refine va_putF (D := D) (ci := 1) (v := .int a1) (ty := .int) (C := RX0) (T := TX0) (N := 12) hx hb hts im_X0_init_X0 tyX0 tyX0_ok nmX0 hown hE.1 hP hD hS 0 rfl rfl 0 (by decide) (hts (.fieldLink RX0 30 "RiverBridges$Bridge" "clear" "I") (by decide +kernel)) (fun _ h9 => h9) rfl hin rfl (by decide +kernel) rfl rfl (Nat.le_of_ble_eq_true rfl) dX0_init_36 (fun H locs hP hD hS => ?_)
  have hP : va_P D vwCl [(h1, .inr (1, [.int a1, .int 0, .int 0, .int 0, .int 0, .int 0, .int 0, .int (-1), .int 0, .int 0, .int 0, .int 0]))] H := hP
  have hD : va_D A [(h1, .inr (1, [.int a1, .int 0, .int 0, .int 0, .int 0, .int 0, .int 0, .int (-1), .int 0, .int 0, .int 0, .int 0]))] := hD
  refine lv_aload_n hx hb dX0_init_39 rfl (lv_at hl 0 rfl) ?_
  refine lv_iload_n hx hb dX0_init_40 rfl (lv_at hl 2 rfl) ?_
  refine va_putF (D := D) (ci := 1) (v := .int a2) (ty := .int) (C := RX0) (T := TX0) (N := 12) hx hb hts im_X0_init_X0 tyX0 tyX0_ok nmX0 hown hE.1 hP hD hS 0 rfl rfl 1 (by decide) (hts (.fieldLink RX0 33 "RiverBridges$Bridge" "opens" "I") (by decide +kernel)) (fun _ h9 => h9) rfl hin rfl (by decide +kernel) rfl rfl (Nat.le_of_ble_eq_true rfl) dX0_init_41 (fun H locs hP hD hS => ?_)
  have hP : va_P D vwCl [(h1, .inr (1, [.int a1, .int a2, .int 0, .int 0, .int 0, .int 0, .int 0, .int (-1), .int 0, .int 0, .int 0, .int 0]))] H := hP
  have hD : va_D A [(h1, .inr (1, [.int a1, .int a2, .int 0, .int 0, .int 0, .int 0, .int 0, .int (-1), .int 0, .int 0, .int 0, .int 0]))] := hD
  refine lv_aload_n hx hb dX0_init_44 rfl (lv_at hl 0 rfl) ?_
  refine lv_iload_n hx hb dX0_init_45 rfl (lv_at hl 3 rfl) ?_
  refine va_putF (D := D) (ci := 1) (v := .int a3) (ty := .int) (C := RX0) (T := TX0) (N := 12) hx hb hts im_X0_init_X0 tyX0 tyX0_ok nmX0 hown hE.1 hP hD hS 0 rfl rfl 2 (by decide) (hts (.fieldLink RX0 36 "RiverBridges$Bridge" "shuts" "I") (by decide +kernel)) (fun _ h9 => h9) rfl hin rfl (by decide +kernel) rfl rfl (Nat.le_of_ble_eq_true rfl) dX0_init_46 (fun H locs hP hD hS => ?_)
  have hP : va_P D vwCl [(h1, .inr (1, [.int a1, .int a2, .int a3, .int 0, .int 0, .int 0, .int 0, .int (-1), .int 0, .int 0, .int 0, .int 0]))] H := hP
  have hD : va_D A [(h1, .inr (1, [.int a1, .int a2, .int a3, .int 0, .int 0, .int 0, .int 0, .int (-1), .int 0, .int 0, .int 0, .int 0]))] := hD
  refine lv_aload_n hx hb dX0_init_49 rfl (lv_at hl 0 rfl) ?_
  refine lv_iload hx hb dX0_init_50 (lv_at hl 4 rfl) ?_
  refine va_putF (D := D) (ci := 1) (v := .int a4) (ty := .int) (C := RX0) (T := TX0) (N := 12) hx hb hts im_X0_init_X0 tyX0 tyX0_ok nmX0 hown hE.1 hP hD hS 0 rfl rfl 3 (by decide) (hts (.fieldLink RX0 39 "RiverBridges$Bridge" "way" "I") (by decide +kernel)) (fun _ h9 => h9) rfl hin rfl (by decide +kernel) rfl rfl (Nat.le_of_ble_eq_true rfl) dX0_init_52 (fun H locs hP hD hS => ?_)
  have hP : va_P D vwCl [(h1, .inr (1, [.int a1, .int a2, .int a3, .int a4, .int 0, .int 0, .int 0, .int (-1), .int 0, .int 0, .int 0, .int 0]))] H := hP
  have hD : va_D A [(h1, .inr (1, [.int a1, .int a2, .int a3, .int a4, .int 0, .int 0, .int 0, .int (-1), .int 0, .int 0, .int 0, .int 0]))] := hD
  refine lv_aload_n hx hb dX0_init_55 rfl (lv_at hl 0 rfl) ?_
  refine lv_iload hx hb dX0_init_56 (lv_at hl 5 rfl) ?_
  refine va_putF (D := D) (ci := 1) (v := .int a5) (ty := .int) (C := RX0) (T := TX0) (N := 12) hx hb hts im_X0_init_X0 tyX0 tyX0_ok nmX0 hown hE.1 hP hD hS 0 rfl rfl 4 (by decide) (hts (.fieldLink RX0 42 "RiverBridges$Bridge" "cars" "I") (by decide +kernel)) (fun _ h9 => h9) rfl hin rfl (by decide +kernel) rfl rfl (Nat.le_of_ble_eq_true rfl) dX0_init_58 (fun H locs hP hD hS => ?_)
  have hP : va_P D vwCl [(h1, .inr (1, [.int a1, .int a2, .int a3, .int a4, .int a5, .int 0, .int 0, .int (-1), .int 0, .int 0, .int 0, .int 0]))] H := hP
  have hD : va_D A [(h1, .inr (1, [.int a1, .int a2, .int a3, .int a4, .int a5, .int 0, .int 0, .int (-1), .int 0, .int 0, .int 0, .int 0]))] := hD
  refine lv_aload_n hx hb dX0_init_61 rfl (lv_at hl 0 rfl) ?_
  refine lv_iload hx hb dX0_init_62 (lv_at hl 6 rfl) ?_
  refine va_putF (D := D) (ci := 1) (v := .int a6) (ty := .int) (C := RX0) (T := TX0) (N := 12) hx hb hts im_X0_init_X0 tyX0 tyX0_ok nmX0 hown hE.1 hP hD hS 0 rfl rfl 5 (by decide) (hts (.fieldLink RX0 45 "RiverBridges$Bridge" "flow" "I") (by decide +kernel)) (fun _ h9 => h9) rfl hin rfl (by decide +kernel) rfl rfl (Nat.le_of_ble_eq_true rfl) dX0_init_64 (fun H locs hP hD hS => ?_)
  have hP : va_P D vwCl [(h1, .inr (1, [.int a1, .int a2, .int a3, .int a4, .int a5, .int a6, .int 0, .int (-1), .int 0, .int 0, .int 0, .int 0]))] H := hP
  have hD : va_D A [(h1, .inr (1, [.int a1, .int a2, .int a3, .int a4, .int a5, .int a6, .int 0, .int (-1), .int 0, .int 0, .int 0, .int 0]))] := hD
  have hP9 := hP.sub (ws' := [(h1, .inr (1, [.int a1, .int a2, .int a3, .int a4, .int a5, .int a6, .int 0, .int (-1), .int 0, .int 0, .int 0, .int 0]))]) [0] rfl
  have hD9 := hD.sub (ws' := [(h1, .inr (1, [.int a1, .int a2, .int a3, .int a4, .int a5, .int a6, .int 0, .int (-1), .int 0, .int 0, .int 0, .int 0]))]) [0] (by decide) rfl
  exact ss_vret () hx hb hr hlocks hP9 hD9 hS (trivial) (Nat.le_of_ble_eq_true rfl) (Nat.le_of_ble_eq_true rfl) dX0_init_67

theorem im_X8_bridge_X0 : ∀ w ∈ wsX00, w ∈ wsX8_bridge := fun _ h => List.mem_cons_of_mem _ (List.mem_append_left _ (List.mem_append_right _ h))
theorem im_X8_bridge_X3 : ∀ w ∈ wsX30, w ∈ wsX8_bridge := fun _ h => List.mem_cons_of_mem _ (List.mem_append_left _ (List.mem_append_left _ (List.mem_append_right _ h)))
theorem im_X8_bridge_X8 : ∀ w ∈ wsX80, w ∈ wsX8_bridge := fun _ h => List.mem_cons_of_mem _ (List.mem_append_left _ (List.mem_append_left _ (List.mem_append_left _ (List.mem_append_right _ h))))
set_option maxHeartbeats 400000 in
set_option maxRecDepth 100000 in
theorem c_bridge (l : Launch) (D : va_G) (cI cZ cB cO cJ : ClassId) (a0 : Nat) (sz : Nat) (rb rd tp rv sp td br sh ke tt : Nat) (a1 a2 a3 a4 a5 a6 : Int32)  : Met l yX8_bridge wsX8_bridge ({ frames := 5, cells := 2, slots := 22, locals := 101 }) (Pcs D cI cZ cB cO cJ a0 [.ref rb, .int a1, .int a2, .int a3, .int a4, .int a5, .int a6] [(rb, .inr (9, [.ref rd, .ref tp, .ref rv, .ref sp, .int 0])), (rv, .inr (4, [.ref td, .ref br, .ref sh, .ref ke, .ref tt, .int 5, .int 0])), (br, .inr (0, [.int 0, .ref a0, .int 0]))] sz) (va_Qi (fun (r : Int32) (u : Unit) => r = fB a1 a2 a3 a4 a5 a6) (fun (u : Unit) t => va_P D vwCl [] t.heap ∧ va_D (va_A [(rb, .inr (9, [.ref rd, .ref tp, .ref rv, .ref sp, .int 0])), (rv, .inr (4, [.ref td, .ref br, .ref sh, .ref ke, .ref tt, .int 5, .int 0])), (br, .inr (0, [.int 0, .ref a0, .int 0]))] sz) []) (va_A [(rb, .inr (9, [.ref rd, .ref tp, .ref rv, .ref sp, .int 0])), (rv, .inr (4, [.ref td, .ref br, .ref sh, .ref ke, .ref tt, .int 5, .int 0])), (br, .inr (0, [.int 0, .ref a0, .int 0]))] sz)) 2 22 (va_A [(rb, .inr (9, [.ref rd, .ref tp, .ref rv, .ref sp, .int 0])), (rv, .inr (4, [.ref td, .ref br, .ref sh, .ref ke, .ref tt, .int 5, .int 0])), (br, .inr (0, [.int 0, .ref a0, .int 0]))] sz) := by
  refine Met.ofW (cc := cX8_bridge) (maxL := 7) (ret := (some .int)) (by decide) rfl ?_
  intro p e s m args below meth c s₁ B hml hv
  obtain ⟨rfl, hsz, hP, hE, hD0, hZ⟩ := hv
  have hx := B.exec
  have hb := B.bytes
  have hr := B.returns
  have hts := atoms_spec (ws := wsX8_bridge) B.pre
  have hown : s.vm.findClass RX8 = some m.cls := findClass_of_methodNamed B.named
  have hlocks := B.notSynchronized
  have hin := (name_of_methodNamed B.named B.method).1
  subst hsz
  have hD := hD0.self (sz := s.heap.size)
  generalize hAe : va_A [(rb, .inr (9, [.ref rd, .ref tp, .ref rv, .ref sp, .int 0])), (rv, .inr (4, [.ref td, .ref br, .ref sh, .ref ke, .ref tt, .int 5, .int 0])), (br, .inr (0, [.int 0, .ref a0, .int 0]))] s.heap.size = A at hD hZ ⊢
  have hA : ∀ q : Nat, s.heap.size ≤ q → A q := fun q h => by rw [← hAe]; exact Or.inr h
  have hS : va_S A s.heap s.heap [] := va_S.rf
  have hP : va_P D vwCl [(rb, .inr (9, [.ref rd, .ref tp, .ref rv, .ref sp, .int 0])), (rv, .inr (4, [.ref td, .ref br, .ref sh, .ref ke, .ref tt, .int 5, .int 0])), (br, .inr (0, [.int 0, .ref a0, .int 0]))] s.heap := hP
  have hl := lv_entry ([.ref rb, .int a1, .int a2, .int a3, .int a4, .int a5, .int a6]) (n := 7) (Nat.le_of_ble_eq_true rfl)
  rw [lg_entry_eq]
  generalize (lg_sl ([.ref rb, .int a1, .int a2, .int a3, .int a4, .int a5, .int a6]) ++ List.replicate (7 - (lg_sl ([.ref rb, .int a1, .int a2, .int a3, .int a4, .int a5, .int a6])).length) Slot.unset).toArray = ls at hl ⊢
  have hl : lv_has ls 7 [(0, .ref rb), (1, .int a1), (2, .int a2), (3, .int a3), (4, .int a4), (5, .int a5), (6, .int a6)] := hl
  refine lv_aload_n hx hb dX8_bridge_0 rfl (lv_at hl 0 rfl) ?_
  refine va_get (D := D) (ci := 9) (v := .ref rv) (C := RX8) (T := TX8) (N := 5) hx hb hts im_X8_bridge_X8 hown hE.1 hP 0 rfl rfl 2 (by decide) (hts (.fieldLink RX8 24 "RiverBridges" "river" "LRiverBridges$River;") (by decide +kernel)) (fun _ h9 => h9) rfl dX8_bridge_1 ?_
  refine va_get (D := D) (ci := 4) (v := .int 0) (C := RX3) (T := TX3) (N := 7) hx hb hts im_X8_bridge_X3 hown hE.1 hP 1 rfl rfl 6 (by decide) (hts (.fieldLink RX8 56 "RiverBridges$River" "minute" "I") (by decide +kernel)) (fun _ h9 => h9) rfl dX8_bridge_4 ?_
  refine lv_if_ne (tgt := 25) hx hb dX8_bridge_7 (by decide) (fun c9 => absurd (by decide) c9) (fun _ => ?_)
  refine lv_aload_n hx hb dX8_bridge_10 rfl (lv_at hl 0 rfl) ?_
  refine va_get (D := D) (ci := 9) (v := .ref rv) (C := RX8) (T := TX8) (N := 5) hx hb hts im_X8_bridge_X8 hown hE.1 hP 0 rfl rfl 2 (by decide) (hts (.fieldLink RX8 24 "RiverBridges" "river" "LRiverBridges$River;") (by decide +kernel)) (fun _ h9 => h9) rfl dX8_bridge_11 ?_
  refine va_get (D := D) (ci := 4) (v := .ref br) (C := RX3) (T := TX3) (N := 7) hx hb hts im_X8_bridge_X3 hown hE.1 hP 1 rfl rfl 1 (by decide) (hts (.fieldLink RX8 59 "RiverBridges$River" "bridges" "Ljava/util/ArrayList;") (by decide +kernel)) (fun _ h9 => h9) rfl dX8_bridge_14 ?_
  refine ss_calli (ws := [(rb, .inr (9, [.ref rd, .ref tp, .ref rv, .ref sp, .int 0])), (rv, .inr (4, [.ref td, .ref br, .ref sh, .ref ke, .ref tt, .int 5, .int 0])), (br, .inr (0, [.int 0, .ref a0, .int 0]))]) (wc := [(br, .inr (0, [.int 0, .ref a0, .int 0]))]) (wr := [(rb, .inr (9, [.ref rd, .ref tp, .ref rv, .ref sp, .int 0])), (rv, .inr (4, [.ref td, .ref br, .ref sh, .ref ke, .ref tt, .int 5, .int 0]))]) [2] [0, 1] (va_runV (As := []) (rest := []) ⟨hx, hb, hml, hown, hts⟩ (c_AL_size l D cI cZ cB cO cJ a0 s.heap.size br a0 0 0) (cwV 0 hts gX8_bridge_Jx4a65c_size_8abf5 rfl rfl rfl (by decide +kernel) ⟨Nat.le_of_ble_eq_true rfl, Nat.le_of_ble_eq_true rfl⟩) (preV_std (wc := [(br, .inr (0, [.int 0, .ref a0, .int 0]))]) [2] hE hZ hA hS hP hD rfl (by decide) (fun h9 => va_recv hE.1 h9 (ci := 0) (q0 := 0) rfl rfl)) rfl rfl hl.1 rfl (lv_room (Nat.le_of_ble_eq_true rfl)) dX8_bridge_17 ⟨Nat.le_of_ble_eq_true rfl, Nat.le_of_ble_eq_true rfl⟩) hP hD hS hA rfl rfl (by decide) (by decide) (fun r1 u H locs hw hP hD hS => ?_)
  try dsimp only at hw
  subst hw
  have hP : va_P D vwCl [(rb, .inr (9, [.ref rd, .ref tp, .ref rv, .ref sp, .int 0])), (rv, .inr (4, [.ref td, .ref br, .ref sh, .ref ke, .ref tt, .int 5, .int 0])), (br, .inr (0, [.int 0, .ref a0, .int 0]))] H := hP
  have hD : va_D A [(rb, .inr (9, [.ref rd, .ref tp, .ref rv, .ref sp, .int 0])), (rv, .inr (4, [.ref td, .ref br, .ref sh, .ref ke, .ref tt, .int 5, .int 0])), (br, .inr (0, [.int 0, .ref a0, .int 0]))] := hD
  refine lv_bipush (v := 8) hx hb dX8_bridge_20 (by decide) ?_
  refine lv_icmp_lt (tgt := 27) hx hb dX8_bridge_22 (by decide) (fun _ => ?_) (fun c9 => absurd (by decide) c9)
  refine lv_iload_n hx hb dX8_bridge_27 rfl (lv_at hl 1 rfl) ?_
  refine lv_iconst (v := 0) hx hb dX8_bridge_28 (by decide) ?_
  refine lv_sipush (v := 400) hx hb dX8_bridge_29 (by decide) ?_
  refine ss_calli (ws := [(rb, .inr (9, [.ref rd, .ref tp, .ref rv, .ref sp, .int 0])), (rv, .inr (4, [.ref td, .ref br, .ref sh, .ref ke, .ref tt, .int 5, .int 0])), (br, .inr (0, [.int 0, .ref a0, .int 0]))]) (wc := []) (wr := [(rb, .inr (9, [.ref rd, .ref tp, .ref rv, .ref sp, .int 0])), (rv, .inr (4, [.ref td, .ref br, .ref sh, .ref ke, .ref tt, .int 5, .int 0])), (br, .inr (0, [.int 0, .ref a0, .int 0]))]) [] [0, 1, 2] (va_runS (As := [.int a1, .int 0, .int 400]) (rest := []) ⟨hx, hb, hml, hown, hts⟩ (c_isWithin l D cI cZ cB cO cJ a0 H.size a1 0 400) (cwS 3 hts gX8_bridge_X8_isWithin rfl rfl rfl (by decide +kernel) ⟨Nat.le_of_ble_eq_true rfl, Nat.le_of_ble_eq_true rfl⟩) (preS_std (wc := []) [] hE hZ hA hS hP hD rfl (by decide)) rfl rfl hl.1 rfl (lv_room (Nat.le_of_ble_eq_true rfl)) dX8_bridge_32 ⟨Nat.le_of_ble_eq_true rfl, Nat.le_of_ble_eq_true rfl⟩) hP hD hS hA rfl rfl (by decide) (by decide) (fun r2 u H locs hw hP hD hS => ?_)
  try dsimp only at hw
  subst hw
  have hP : va_P D vwCl [(rb, .inr (9, [.ref rd, .ref tp, .ref rv, .ref sp, .int 0])), (rv, .inr (4, [.ref td, .ref br, .ref sh, .ref ke, .ref tt, .int 5, .int 0])), (br, .inr (0, [.int 0, .ref a0, .int 0]))] H := hP
  have hD : va_D A [(rb, .inr (9, [.ref rd, .ref tp, .ref rv, .ref sp, .int 0])), (rv, .inr (4, [.ref td, .ref br, .ref sh, .ref ke, .ref tt, .int 5, .int 0])), (br, .inr (0, [.int 0, .ref a0, .int 0]))] := hD
  refine lv_if_eq (tgt := 58) hx hb dX8_bridge_35 (by decide) (fun ca => ?_) (fun ca => ?_)
  · refine lv_iconst (v := -1) hx hb dX8_bridge_58 (by decide) ?_
    have hP9 := hP.sub (ws' := []) [] rfl
    have hD9 := hD.sub (ws' := []) [] (by decide) rfl
    exact ss_iret () hx hb hr hlocks hP9 hD9 hS (by unfold fB; simp [ca]) (Nat.le_of_ble_eq_true rfl) (Nat.le_of_ble_eq_true rfl) dX8_bridge_59
  · refine lv_iload_n hx hb dX8_bridge_38 rfl (lv_at hl 2 rfl) ?_
    refine lv_iconst (v := 1) hx hb dX8_bridge_39 (by decide) ?_
    refine lv_bipush (v := 9) hx hb dX8_bridge_40 (by decide) ?_
    refine ss_calli (ws := [(rb, .inr (9, [.ref rd, .ref tp, .ref rv, .ref sp, .int 0])), (rv, .inr (4, [.ref td, .ref br, .ref sh, .ref ke, .ref tt, .int 5, .int 0])), (br, .inr (0, [.int 0, .ref a0, .int 0]))]) (wc := []) (wr := [(rb, .inr (9, [.ref rd, .ref tp, .ref rv, .ref sp, .int 0])), (rv, .inr (4, [.ref td, .ref br, .ref sh, .ref ke, .ref tt, .int 5, .int 0])), (br, .inr (0, [.int 0, .ref a0, .int 0]))]) [] [0, 1, 2] (va_runS (As := [.int a2, .int 1, .int 9]) (rest := []) ⟨hx, hb, hml, hown, hts⟩ (c_isWithin l D cI cZ cB cO cJ a0 H.size a2 1 9) (cwS 3 hts gX8_bridge_X8_isWithin rfl rfl rfl (by decide +kernel) ⟨Nat.le_of_ble_eq_true rfl, Nat.le_of_ble_eq_true rfl⟩) (preS_std (wc := []) [] hE hZ hA hS hP hD rfl (by decide)) rfl rfl hl.1 rfl (lv_room (Nat.le_of_ble_eq_true rfl)) dX8_bridge_42 ⟨Nat.le_of_ble_eq_true rfl, Nat.le_of_ble_eq_true rfl⟩) hP hD hS hA rfl rfl (by decide) (by decide) (fun r3 u H locs hw hP hD hS => ?_)
    try dsimp only at hw
    subst hw
    have hP : va_P D vwCl [(rb, .inr (9, [.ref rd, .ref tp, .ref rv, .ref sp, .int 0])), (rv, .inr (4, [.ref td, .ref br, .ref sh, .ref ke, .ref tt, .int 5, .int 0])), (br, .inr (0, [.int 0, .ref a0, .int 0]))] H := hP
    have hD : va_D A [(rb, .inr (9, [.ref rd, .ref tp, .ref rv, .ref sp, .int 0])), (rv, .inr (4, [.ref td, .ref br, .ref sh, .ref ke, .ref tt, .int 5, .int 0])), (br, .inr (0, [.int 0, .ref a0, .int 0]))] := hD
    refine lv_if_eq (tgt := 58) hx hb dX8_bridge_45 (by decide) (fun cb => ?_) (fun cb => ?_)
    · refine lv_iconst (v := -1) hx hb dX8_bridge_58 (by decide) ?_
      have hP9 := hP.sub (ws' := []) [] rfl
      have hD9 := hD.sub (ws' := []) [] (by decide) rfl
      exact ss_iret () hx hb hr hlocks hP9 hD9 hS (by unfold fB; simp [ca, cb]) (Nat.le_of_ble_eq_true rfl) (Nat.le_of_ble_eq_true rfl) dX8_bridge_59
    · refine lv_iload_n hx hb dX8_bridge_48 rfl (lv_at hl 3 rfl) ?_
      refine lv_iconst (v := 1) hx hb dX8_bridge_49 (by decide) ?_
      refine lv_bipush (v := 9) hx hb dX8_bridge_50 (by decide) ?_
      refine ss_calli (ws := [(rb, .inr (9, [.ref rd, .ref tp, .ref rv, .ref sp, .int 0])), (rv, .inr (4, [.ref td, .ref br, .ref sh, .ref ke, .ref tt, .int 5, .int 0])), (br, .inr (0, [.int 0, .ref a0, .int 0]))]) (wc := []) (wr := [(rb, .inr (9, [.ref rd, .ref tp, .ref rv, .ref sp, .int 0])), (rv, .inr (4, [.ref td, .ref br, .ref sh, .ref ke, .ref tt, .int 5, .int 0])), (br, .inr (0, [.int 0, .ref a0, .int 0]))]) [] [0, 1, 2] (va_runS (As := [.int a3, .int 1, .int 9]) (rest := []) ⟨hx, hb, hml, hown, hts⟩ (c_isWithin l D cI cZ cB cO cJ a0 H.size a3 1 9) (cwS 3 hts gX8_bridge_X8_isWithin rfl rfl rfl (by decide +kernel) ⟨Nat.le_of_ble_eq_true rfl, Nat.le_of_ble_eq_true rfl⟩) (preS_std (wc := []) [] hE hZ hA hS hP hD rfl (by decide)) rfl rfl hl.1 rfl (lv_room (Nat.le_of_ble_eq_true rfl)) dX8_bridge_52 ⟨Nat.le_of_ble_eq_true rfl, Nat.le_of_ble_eq_true rfl⟩) hP hD hS hA rfl rfl (by decide) (by decide) (fun r4 u H locs hw hP hD hS => ?_)
      try dsimp only at hw
      subst hw
      have hP : va_P D vwCl [(rb, .inr (9, [.ref rd, .ref tp, .ref rv, .ref sp, .int 0])), (rv, .inr (4, [.ref td, .ref br, .ref sh, .ref ke, .ref tt, .int 5, .int 0])), (br, .inr (0, [.int 0, .ref a0, .int 0]))] H := hP
      have hD : va_D A [(rb, .inr (9, [.ref rd, .ref tp, .ref rv, .ref sp, .int 0])), (rv, .inr (4, [.ref td, .ref br, .ref sh, .ref ke, .ref tt, .int 5, .int 0])), (br, .inr (0, [.int 0, .ref a0, .int 0]))] := hD
      refine lv_if_ne (tgt := 60) hx hb dX8_bridge_55 (by decide) (fun cc1 => ?_) (fun cc1 => ?_)
      · refine lv_iload hx hb dX8_bridge_60 (lv_at hl 4 rfl) ?_
        refine lv_iconst (v := 1) hx hb dX8_bridge_62 (by decide) ?_
        refine lv_bipush (v := 60) hx hb dX8_bridge_63 (by decide) ?_
        refine ss_calli (ws := [(rb, .inr (9, [.ref rd, .ref tp, .ref rv, .ref sp, .int 0])), (rv, .inr (4, [.ref td, .ref br, .ref sh, .ref ke, .ref tt, .int 5, .int 0])), (br, .inr (0, [.int 0, .ref a0, .int 0]))]) (wc := []) (wr := [(rb, .inr (9, [.ref rd, .ref tp, .ref rv, .ref sp, .int 0])), (rv, .inr (4, [.ref td, .ref br, .ref sh, .ref ke, .ref tt, .int 5, .int 0])), (br, .inr (0, [.int 0, .ref a0, .int 0]))]) [] [0, 1, 2] (va_runS (As := [.int a4, .int 1, .int 60]) (rest := []) ⟨hx, hb, hml, hown, hts⟩ (c_isWithin l D cI cZ cB cO cJ a0 H.size a4 1 60) (cwS 3 hts gX8_bridge_X8_isWithin rfl rfl rfl (by decide +kernel) ⟨Nat.le_of_ble_eq_true rfl, Nat.le_of_ble_eq_true rfl⟩) (preS_std (wc := []) [] hE hZ hA hS hP hD rfl (by decide)) rfl rfl hl.1 rfl (lv_room (Nat.le_of_ble_eq_true rfl)) dX8_bridge_65 ⟨Nat.le_of_ble_eq_true rfl, Nat.le_of_ble_eq_true rfl⟩) hP hD hS hA rfl rfl (by decide) (by decide) (fun r5 u H locs hw hP hD hS => ?_)
        try dsimp only at hw
        subst hw
        have hP : va_P D vwCl [(rb, .inr (9, [.ref rd, .ref tp, .ref rv, .ref sp, .int 0])), (rv, .inr (4, [.ref td, .ref br, .ref sh, .ref ke, .ref tt, .int 5, .int 0])), (br, .inr (0, [.int 0, .ref a0, .int 0]))] H := hP
        have hD : va_D A [(rb, .inr (9, [.ref rd, .ref tp, .ref rv, .ref sp, .int 0])), (rv, .inr (4, [.ref td, .ref br, .ref sh, .ref ke, .ref tt, .int 5, .int 0])), (br, .inr (0, [.int 0, .ref a0, .int 0]))] := hD
        refine lv_if_eq (tgt := 93) hx hb dX8_bridge_68 (by decide) (fun cd => ?_) (fun cd => ?_)
        · refine lv_iconst (v := -1) hx hb dX8_bridge_93 (by decide) ?_
          have hP9 := hP.sub (ws' := []) [] rfl
          have hD9 := hD.sub (ws' := []) [] (by decide) rfl
          exact ss_iret () hx hb hr hlocks hP9 hD9 hS (by unfold fB; simp [ca, cb, cc1, cd]) (Nat.le_of_ble_eq_true rfl) (Nat.le_of_ble_eq_true rfl) dX8_bridge_94
        · refine lv_iload hx hb dX8_bridge_71 (lv_at hl 5 rfl) ?_
          refine lv_iconst (v := 0) hx hb dX8_bridge_73 (by decide) ?_
          refine lv_bipush (v := 60) hx hb dX8_bridge_74 (by decide) ?_
          refine ss_calli (ws := [(rb, .inr (9, [.ref rd, .ref tp, .ref rv, .ref sp, .int 0])), (rv, .inr (4, [.ref td, .ref br, .ref sh, .ref ke, .ref tt, .int 5, .int 0])), (br, .inr (0, [.int 0, .ref a0, .int 0]))]) (wc := []) (wr := [(rb, .inr (9, [.ref rd, .ref tp, .ref rv, .ref sp, .int 0])), (rv, .inr (4, [.ref td, .ref br, .ref sh, .ref ke, .ref tt, .int 5, .int 0])), (br, .inr (0, [.int 0, .ref a0, .int 0]))]) [] [0, 1, 2] (va_runS (As := [.int a5, .int 0, .int 60]) (rest := []) ⟨hx, hb, hml, hown, hts⟩ (c_isWithin l D cI cZ cB cO cJ a0 H.size a5 0 60) (cwS 3 hts gX8_bridge_X8_isWithin rfl rfl rfl (by decide +kernel) ⟨Nat.le_of_ble_eq_true rfl, Nat.le_of_ble_eq_true rfl⟩) (preS_std (wc := []) [] hE hZ hA hS hP hD rfl (by decide)) rfl rfl hl.1 rfl (lv_room (Nat.le_of_ble_eq_true rfl)) dX8_bridge_76 ⟨Nat.le_of_ble_eq_true rfl, Nat.le_of_ble_eq_true rfl⟩) hP hD hS hA rfl rfl (by decide) (by decide) (fun r6 u H locs hw hP hD hS => ?_)
          try dsimp only at hw
          subst hw
          have hP : va_P D vwCl [(rb, .inr (9, [.ref rd, .ref tp, .ref rv, .ref sp, .int 0])), (rv, .inr (4, [.ref td, .ref br, .ref sh, .ref ke, .ref tt, .int 5, .int 0])), (br, .inr (0, [.int 0, .ref a0, .int 0]))] H := hP
          have hD : va_D A [(rb, .inr (9, [.ref rd, .ref tp, .ref rv, .ref sp, .int 0])), (rv, .inr (4, [.ref td, .ref br, .ref sh, .ref ke, .ref tt, .int 5, .int 0])), (br, .inr (0, [.int 0, .ref a0, .int 0]))] := hD
          refine lv_if_eq (tgt := 93) hx hb dX8_bridge_79 (by decide) (fun ce => ?_) (fun ce => ?_)
          · refine lv_iconst (v := -1) hx hb dX8_bridge_93 (by decide) ?_
            have hP9 := hP.sub (ws' := []) [] rfl
            have hD9 := hD.sub (ws' := []) [] (by decide) rfl
            exact ss_iret () hx hb hr hlocks hP9 hD9 hS (by unfold fB; simp [ca, cb, cc1, cd, ce]) (Nat.le_of_ble_eq_true rfl) (Nat.le_of_ble_eq_true rfl) dX8_bridge_94
          · refine lv_iload hx hb dX8_bridge_82 (lv_at hl 6 rfl) ?_
            refine lv_iconst (v := 1) hx hb dX8_bridge_84 (by decide) ?_
            refine lv_bipush (v := 99) hx hb dX8_bridge_85 (by decide) ?_
            refine ss_calli (ws := [(rb, .inr (9, [.ref rd, .ref tp, .ref rv, .ref sp, .int 0])), (rv, .inr (4, [.ref td, .ref br, .ref sh, .ref ke, .ref tt, .int 5, .int 0])), (br, .inr (0, [.int 0, .ref a0, .int 0]))]) (wc := []) (wr := [(rb, .inr (9, [.ref rd, .ref tp, .ref rv, .ref sp, .int 0])), (rv, .inr (4, [.ref td, .ref br, .ref sh, .ref ke, .ref tt, .int 5, .int 0])), (br, .inr (0, [.int 0, .ref a0, .int 0]))]) [] [0, 1, 2] (va_runS (As := [.int a6, .int 1, .int 99]) (rest := []) ⟨hx, hb, hml, hown, hts⟩ (c_isWithin l D cI cZ cB cO cJ a0 H.size a6 1 99) (cwS 3 hts gX8_bridge_X8_isWithin rfl rfl rfl (by decide +kernel) ⟨Nat.le_of_ble_eq_true rfl, Nat.le_of_ble_eq_true rfl⟩) (preS_std (wc := []) [] hE hZ hA hS hP hD rfl (by decide)) rfl rfl hl.1 rfl (lv_room (Nat.le_of_ble_eq_true rfl)) dX8_bridge_87 ⟨Nat.le_of_ble_eq_true rfl, Nat.le_of_ble_eq_true rfl⟩) hP hD hS hA rfl rfl (by decide) (by decide) (fun r7 u H locs hw hP hD hS => ?_)
            try dsimp only at hw
            subst hw
            have hP : va_P D vwCl [(rb, .inr (9, [.ref rd, .ref tp, .ref rv, .ref sp, .int 0])), (rv, .inr (4, [.ref td, .ref br, .ref sh, .ref ke, .ref tt, .int 5, .int 0])), (br, .inr (0, [.int 0, .ref a0, .int 0]))] H := hP
            have hD : va_D A [(rb, .inr (9, [.ref rd, .ref tp, .ref rv, .ref sp, .int 0])), (rv, .inr (4, [.ref td, .ref br, .ref sh, .ref ke, .ref tt, .int 5, .int 0])), (br, .inr (0, [.int 0, .ref a0, .int 0]))] := hD
            refine lv_if_ne (tgt := 95) hx hb dX8_bridge_90 (by decide) (fun cf => ?_) (fun cf => ?_)
            · refine lv_aload_n hx hb dX8_bridge_95 rfl (lv_at hl 0 rfl) ?_
              refine va_get (D := D) (ci := 9) (v := .ref rv) (C := RX8) (T := TX8) (N := 5) hx hb hts im_X8_bridge_X8 hown hE.1 hP 0 rfl rfl 2 (by decide) (hts (.fieldLink RX8 24 "RiverBridges" "river" "LRiverBridges$River;") (by decide +kernel)) (fun _ h9 => h9) rfl dX8_bridge_96 ?_
              refine va_get (D := D) (ci := 4) (v := .ref br) (C := RX3) (T := TX3) (N := 7) hx hb hts im_X8_bridge_X3 hown hE.1 hP 1 rfl rfl 1 (by decide) (hts (.fieldLink RX8 59 "RiverBridges$River" "bridges" "Ljava/util/ArrayList;") (by decide +kernel)) (fun _ h9 => h9) rfl dX8_bridge_99 ?_
              refine va_new (ci := 1) (fs := [.int 0, .int 0, .int 0, .int 0, .int 0, .int 0, .int 0, .int 0, .int 0, .int 0, .int 0, .int 0]) (C := RX0) (T := TX0) (N := 12) hx hb hts im_X8_bridge_X0 tyX0 tyX0_ok hown (hts (.classLink RX8 68 RX0) (by decide +kernel)) (hts (.instantiable RX0 12) (by decide +kernel)) (hts (.initialized RX0) (by decide +kernel)) hE.1 hP hD hS hA rfl (fun j hj => by rcases (show j = 0 ∨ j = 1 ∨ j = 2 ∨ j = 3 ∨ j = 4 ∨ j = 5 ∨ j = 6 ∨ j = 7 ∨ j = 8 ∨ j = 9 ∨ j = 10 ∨ j = 11 by omega) with rfl | rfl | rfl | rfl | rfl | rfl | rfl | rfl | rfl | rfl | rfl | rfl <;> rfl) (Nat.le_of_ble_eq_true rfl) (Nat.le_of_ble_eq_true rfl) dX8_bridge_102 (fun q8 H hP hD hS => ?_)
              have hP : va_P D vwCl [(rb, .inr (9, [.ref rd, .ref tp, .ref rv, .ref sp, .int 0])), (rv, .inr (4, [.ref td, .ref br, .ref sh, .ref ke, .ref tt, .int 5, .int 0])), (br, .inr (0, [.int 0, .ref a0, .int 0])), (q8, .inr (1, [.int 0, .int 0, .int 0, .int 0, .int 0, .int 0, .int 0, .int 0, .int 0, .int 0, .int 0, .int 0]))] H := hP
              have hD : va_D A [(rb, .inr (9, [.ref rd, .ref tp, .ref rv, .ref sp, .int 0])), (rv, .inr (4, [.ref td, .ref br, .ref sh, .ref ke, .ref tt, .int 5, .int 0])), (br, .inr (0, [.int 0, .ref a0, .int 0])), (q8, .inr (1, [.int 0, .int 0, .int 0, .int 0, .int 0, .int 0, .int 0, .int 0, .int 0, .int 0, .int 0, .int 0]))] := hD
              refine lv_dup hx hb dX8_bridge_105 rfl ?_
              refine lv_iload_n hx hb dX8_bridge_106 rfl (lv_at hl 1 rfl) ?_
              refine lv_iload_n hx hb dX8_bridge_107 rfl (lv_at hl 2 rfl) ?_
              refine lv_iload_n hx hb dX8_bridge_108 rfl (lv_at hl 3 rfl) ?_
              refine lv_iload hx hb dX8_bridge_109 (lv_at hl 4 rfl) ?_
              refine lv_iload hx hb dX8_bridge_111 (lv_at hl 5 rfl) ?_
              refine lv_iload hx hb dX8_bridge_113 (lv_at hl 6 rfl) ?_
              refine ss_callv (ws := [(rb, .inr (9, [.ref rd, .ref tp, .ref rv, .ref sp, .int 0])), (rv, .inr (4, [.ref td, .ref br, .ref sh, .ref ke, .ref tt, .int 5, .int 0])), (br, .inr (0, [.int 0, .ref a0, .int 0])), (q8, .inr (1, [.int 0, .int 0, .int 0, .int 0, .int 0, .int 0, .int 0, .int 0, .int 0, .int 0, .int 0, .int 0]))]) (wc := [(q8, .inr (1, [.int 0, .int 0, .int 0, .int 0, .int 0, .int 0, .int 0, .int 0, .int 0, .int 0, .int 0, .int 0]))]) (wr := [(rb, .inr (9, [.ref rd, .ref tp, .ref rv, .ref sp, .int 0])), (rv, .inr (4, [.ref td, .ref br, .ref sh, .ref ke, .ref tt, .int 5, .int 0])), (br, .inr (0, [.int 0, .ref a0, .int 0]))]) [3] [0, 1, 2] (va_runI (As := [.int a1, .int a2, .int a3, .int a4, .int a5, .int a6]) (rest := [.ref q8, .ref br]) ⟨hx, hb, hml, hown, hts⟩ (c_Bridge_init l D cI cZ cB cO cJ a0 H.size q8 a1 a2 a3 a4 a5 a6) (cwI 6 hts gX8_bridge_X0_init rfl rfl rfl (hts (.initialized RX0) (by decide +kernel)) (hts (.methodLink RX8 70 yX0_init) (by decide +kernel)) (hts (.instanceMethod yX0_init) (by decide +kernel)) rfl (by decide +kernel) ⟨Nat.le_of_ble_eq_true rfl, Nat.le_of_ble_eq_true rfl⟩) (preS_std (wc := [(q8, .inr (1, [.int 0, .int 0, .int 0, .int 0, .int 0, .int 0, .int 0, .int 0, .int 0, .int 0, .int 0, .int 0]))]) [3] hE hZ hA hS hP hD rfl (by decide)) rfl rfl hl.1 rfl (lv_room (Nat.le_of_ble_eq_true rfl)) dX8_bridge_115 ⟨Nat.le_of_ble_eq_true rfl, Nat.le_of_ble_eq_true rfl⟩) hP hD hS hA rfl rfl (by decide) (by decide) (fun u H locs hw hP hD hS => ?_)
              try dsimp only at hw
              have hP : va_P D vwCl [(rb, .inr (9, [.ref rd, .ref tp, .ref rv, .ref sp, .int 0])), (rv, .inr (4, [.ref td, .ref br, .ref sh, .ref ke, .ref tt, .int 5, .int 0])), (br, .inr (0, [.int 0, .ref a0, .int 0])), (q8, .inr (1, [.int a1, .int a2, .int a3, .int a4, .int a5, .int a6, .int 0, .int (-1), .int 0, .int 0, .int 0, .int 0]))] H := hP
              have hD : va_D A [(rb, .inr (9, [.ref rd, .ref tp, .ref rv, .ref sp, .int 0])), (rv, .inr (4, [.ref td, .ref br, .ref sh, .ref ke, .ref tt, .int 5, .int 0])), (br, .inr (0, [.int 0, .ref a0, .int 0])), (q8, .inr (1, [.int a1, .int a2, .int a3, .int a4, .int a5, .int a6, .int 0, .int (-1), .int 0, .int 0, .int 0, .int 0]))] := hD
              refine ss_calli (ws := [(rb, .inr (9, [.ref rd, .ref tp, .ref rv, .ref sp, .int 0])), (rv, .inr (4, [.ref td, .ref br, .ref sh, .ref ke, .ref tt, .int 5, .int 0])), (br, .inr (0, [.int 0, .ref a0, .int 0])), (q8, .inr (1, [.int a1, .int a2, .int a3, .int a4, .int a5, .int a6, .int 0, .int (-1), .int 0, .int 0, .int 0, .int 0]))]) (wc := [(br, .inr (0, [.int 0, .ref a0, .int 0])), (q8, .inr (1, [.int a1, .int a2, .int a3, .int a4, .int a5, .int a6, .int 0, .int (-1), .int 0, .int 0, .int 0, .int 0]))]) (wr := [(rb, .inr (9, [.ref rd, .ref tp, .ref rv, .ref sp, .int 0])), (rv, .inr (4, [.ref td, .ref br, .ref sh, .ref ke, .ref tt, .int 5, .int 0]))]) [2, 3] [0, 1] (va_runV (As := [.ref q8]) (rest := []) ⟨hx, hb, hml, hown, hts⟩ (c_add1 l D cI cZ cB cO cJ a0 H.size br q8 a1 a2 a3 a4 a5 a6) (cwV 1 hts gX8_bridge_Jx4a65c_add_9ea2d rfl rfl rfl (by decide +kernel) ⟨Nat.le_of_ble_eq_true rfl, Nat.le_of_ble_eq_true rfl⟩) (preV_std (wc := [(br, .inr (0, [.int 0, .ref a0, .int 0])), (q8, .inr (1, [.int a1, .int a2, .int a3, .int a4, .int a5, .int a6, .int 0, .int (-1), .int 0, .int 0, .int 0, .int 0]))]) [2, 3] hE hZ hA hS hP hD rfl (by decide) (fun h9 => va_recv hE.1 h9 (ci := 0) (q0 := 0) rfl rfl)) rfl rfl hl.1 rfl (lv_room (Nat.le_of_ble_eq_true rfl)) dX8_bridge_118 ⟨Nat.le_of_ble_eq_true rfl, Nat.le_of_ble_eq_true rfl⟩) hP hD hS hA rfl rfl (by decide) (by decide) (fun r10 u H locs hw hP hD hS => ?_)
              obtain ⟨ra1, rfl⟩ : ∃ z, z = u := ⟨_, rfl⟩
              try dsimp only at hw
              subst hw
              have hP : va_P D vwCl [(rb, .inr (9, [.ref rd, .ref tp, .ref rv, .ref sp, .int 0])), (rv, .inr (4, [.ref td, .ref br, .ref sh, .ref ke, .ref tt, .int 5, .int 0])), (br, .inr (0, [.int 1, .ref ra1, .int 1]))] H := hP
              have hD : va_D A [(rb, .inr (9, [.ref rd, .ref tp, .ref rv, .ref sp, .int 0])), (rv, .inr (4, [.ref td, .ref br, .ref sh, .ref ke, .ref tt, .int 5, .int 0])), (br, .inr (0, [.int 1, .ref ra1, .int 1]))] := hD
              refine lv_pop hx hb dX8_bridge_121 rfl ?_
              refine lv_aload_n hx hb dX8_bridge_122 rfl (lv_at hl 0 rfl) ?_
              refine va_get (D := D) (ci := 9) (v := .ref rv) (C := RX8) (T := TX8) (N := 5) hx hb hts im_X8_bridge_X8 hown hE.1 hP 0 rfl rfl 2 (by decide) (hts (.fieldLink RX8 24 "RiverBridges" "river" "LRiverBridges$River;") (by decide +kernel)) (fun _ h9 => h9) rfl dX8_bridge_123 ?_
              refine va_get (D := D) (ci := 4) (v := .ref br) (C := RX3) (T := TX3) (N := 7) hx hb hts im_X8_bridge_X3 hown hE.1 hP 1 rfl rfl 1 (by decide) (hts (.fieldLink RX8 59 "RiverBridges$River" "bridges" "Ljava/util/ArrayList;") (by decide +kernel)) (fun _ h9 => h9) rfl dX8_bridge_126 ?_
              refine ss_calli (ws := [(rb, .inr (9, [.ref rd, .ref tp, .ref rv, .ref sp, .int 0])), (rv, .inr (4, [.ref td, .ref br, .ref sh, .ref ke, .ref tt, .int 5, .int 0])), (br, .inr (0, [.int 1, .ref ra1, .int 1]))]) (wc := [(br, .inr (0, [.int 1, .ref ra1, .int 1]))]) (wr := [(rb, .inr (9, [.ref rd, .ref tp, .ref rv, .ref sp, .int 0])), (rv, .inr (4, [.ref td, .ref br, .ref sh, .ref ke, .ref tt, .int 5, .int 0]))]) [2] [0, 1] (va_runV (As := []) (rest := []) ⟨hx, hb, hml, hown, hts⟩ (c_AL_size l D cI cZ cB cO cJ a0 H.size br ra1 1 1) (cwV 0 hts gX8_bridge_Jx4a65c_size_8abf5 rfl rfl rfl (by decide +kernel) ⟨Nat.le_of_ble_eq_true rfl, Nat.le_of_ble_eq_true rfl⟩) (preV_std (wc := [(br, .inr (0, [.int 1, .ref ra1, .int 1]))]) [2] hE hZ hA hS hP hD rfl (by decide) (fun h9 => va_recv hE.1 h9 (ci := 0) (q0 := 0) rfl rfl)) rfl rfl hl.1 rfl (lv_room (Nat.le_of_ble_eq_true rfl)) dX8_bridge_129 ⟨Nat.le_of_ble_eq_true rfl, Nat.le_of_ble_eq_true rfl⟩) hP hD hS hA rfl rfl (by decide) (by decide) (fun r11 u H locs hw hP hD hS => ?_)
              try dsimp only at hw
              subst hw
              have hP : va_P D vwCl [(rb, .inr (9, [.ref rd, .ref tp, .ref rv, .ref sp, .int 0])), (rv, .inr (4, [.ref td, .ref br, .ref sh, .ref ke, .ref tt, .int 5, .int 0])), (br, .inr (0, [.int 1, .ref ra1, .int 1]))] H := hP
              have hD : va_D A [(rb, .inr (9, [.ref rd, .ref tp, .ref rv, .ref sp, .int 0])), (rv, .inr (4, [.ref td, .ref br, .ref sh, .ref ke, .ref tt, .int 5, .int 0])), (br, .inr (0, [.int 1, .ref ra1, .int 1]))] := hD
              refine lv_iconst (v := 1) hx hb dX8_bridge_132 (by decide) ?_
              refine lx_isub (v := 0) hx hb (by decide) dX8_bridge_133 ?_
              have hP9 := hP.sub (ws' := []) [] rfl
              have hD9 := hD.sub (ws' := []) [] (by decide) rfl
              exact ss_iret () hx hb hr hlocks hP9 hD9 hS (by unfold fB; simp [ca, cb, cc1, cd, ce, cf]) (Nat.le_of_ble_eq_true rfl) (Nat.le_of_ble_eq_true rfl) dX8_bridge_134
            · refine lv_iconst (v := -1) hx hb dX8_bridge_93 (by decide) ?_
              have hP9 := hP.sub (ws' := []) [] rfl
              have hD9 := hD.sub (ws' := []) [] (by decide) rfl
              exact ss_iret () hx hb hr hlocks hP9 hD9 hS (by unfold fB; simp [ca, cb, cc1, cd, ce, cf]) (Nat.le_of_ble_eq_true rfl) (Nat.le_of_ble_eq_true rfl) dX8_bridge_94
      · refine lv_iconst (v := -1) hx hb dX8_bridge_58 (by decide) ?_
        have hP9 := hP.sub (ws' := []) [] rfl
        have hD9 := hD.sub (ws' := []) [] (by decide) rfl
        exact ss_iret () hx hb hr hlocks hP9 hD9 hS (by unfold fB; simp [ca, cb, cc1]) (Nat.le_of_ble_eq_true rfl) (Nat.le_of_ble_eq_true rfl) dX8_bridge_59

theorem im_X8_go_X3 : ∀ w ∈ wsX30, w ∈ wsX8_go := fun _ h => List.mem_cons_of_mem _ (List.mem_append_left _ (List.mem_append_left _ (List.mem_append_left _ (List.mem_append_left _ (List.mem_append_left _ (List.mem_append_left _ (List.mem_append_right _ h)))))))
theorem im_X8_go_X8 : ∀ w ∈ wsX80, w ∈ wsX8_go := fun _ h => List.mem_cons_of_mem _ (List.mem_append_left _ (List.mem_append_left _ (List.mem_append_left _ (List.mem_append_left _ (List.mem_append_left _ (List.mem_append_left _ (List.mem_append_left _ (List.mem_append_right _ h))))))))
set_option maxHeartbeats 400000 in
set_option maxRecDepth 100000 in
theorem c_go (l : Launch) (D : va_G) (cI cZ cB cO cJ : ClassId) (a0 : Nat) (sz : Nat) (rb rd tp rv sp td br sh ke tt : Nat) (n : Int32)  : Met l yX8_go wsX8_go ({ frames := 3, cells := 0, slots := 0, locals := 63 }) (Pcs D cI cZ cB cO cJ a0 [.ref rb, .int n] [(rb, .inr (9, [.ref rd, .ref tp, .ref rv, .ref sp, .int 0])), (rv, .inr (4, [.ref td, .ref br, .ref sh, .ref ke, .ref tt, .int 5, .int 0])), (br, .inr (0, [.int 0, .ref a0, .int 0])), (sh, .inr (0, [.int 0, .ref a0, .int 0])), (ke, .inr (0, [.int 0, .ref a0, .int 0]))] sz) (va_Qi (fun (r : Int32) (u : Unit) => r = fG n) (fun (u : Unit) t => va_P D vwCl [] t.heap ∧ va_D (va_A [(rb, .inr (9, [.ref rd, .ref tp, .ref rv, .ref sp, .int 0])), (rv, .inr (4, [.ref td, .ref br, .ref sh, .ref ke, .ref tt, .int 5, .int 0])), (br, .inr (0, [.int 0, .ref a0, .int 0])), (sh, .inr (0, [.int 0, .ref a0, .int 0])), (ke, .inr (0, [.int 0, .ref a0, .int 0]))] sz) []) (va_A [(rb, .inr (9, [.ref rd, .ref tp, .ref rv, .ref sp, .int 0])), (rv, .inr (4, [.ref td, .ref br, .ref sh, .ref ke, .ref tt, .int 5, .int 0])), (br, .inr (0, [.int 0, .ref a0, .int 0])), (sh, .inr (0, [.int 0, .ref a0, .int 0])), (ke, .inr (0, [.int 0, .ref a0, .int 0]))] sz)) 0 0 (va_A [(rb, .inr (9, [.ref rd, .ref tp, .ref rv, .ref sp, .int 0])), (rv, .inr (4, [.ref td, .ref br, .ref sh, .ref ke, .ref tt, .int 5, .int 0])), (br, .inr (0, [.int 0, .ref a0, .int 0])), (sh, .inr (0, [.int 0, .ref a0, .int 0])), (ke, .inr (0, [.int 0, .ref a0, .int 0]))] sz) := by
  refine Met.ofW (cc := cX8_go) (maxL := 3) (ret := (some .int)) (by decide) rfl ?_
  intro p e s m args below meth c s₁ B hml hv
  obtain ⟨rfl, hsz, hP, hE, hD0, hZ⟩ := hv
  have hx := B.exec
  have hb := B.bytes
  have hr := B.returns
  have hts := atoms_spec (ws := wsX8_go) B.pre
  have hown : s.vm.findClass RX8 = some m.cls := findClass_of_methodNamed B.named
  have hlocks := B.notSynchronized
  have hin := (name_of_methodNamed B.named B.method).1
  subst hsz
  have hD := hD0.self (sz := s.heap.size)
  generalize hAe : va_A [(rb, .inr (9, [.ref rd, .ref tp, .ref rv, .ref sp, .int 0])), (rv, .inr (4, [.ref td, .ref br, .ref sh, .ref ke, .ref tt, .int 5, .int 0])), (br, .inr (0, [.int 0, .ref a0, .int 0])), (sh, .inr (0, [.int 0, .ref a0, .int 0])), (ke, .inr (0, [.int 0, .ref a0, .int 0]))] s.heap.size = A at hD hZ ⊢
  have hA : ∀ q : Nat, s.heap.size ≤ q → A q := fun q h => by rw [← hAe]; exact Or.inr h
  have hS : va_S A s.heap s.heap [] := va_S.rf
  have hP : va_P D vwCl [(rb, .inr (9, [.ref rd, .ref tp, .ref rv, .ref sp, .int 0])), (rv, .inr (4, [.ref td, .ref br, .ref sh, .ref ke, .ref tt, .int 5, .int 0])), (br, .inr (0, [.int 0, .ref a0, .int 0])), (sh, .inr (0, [.int 0, .ref a0, .int 0])), (ke, .inr (0, [.int 0, .ref a0, .int 0]))] s.heap := hP
  have hl := lv_entry ([.ref rb, .int n]) (n := 3) (Nat.le_of_ble_eq_true rfl)
  rw [lg_entry_eq]
  generalize (lg_sl ([.ref rb, .int n]) ++ List.replicate (3 - (lg_sl ([.ref rb, .int n])).length) Slot.unset).toArray = ls at hl ⊢
  have hl : lv_has ls 3 [(0, .ref rb), (1, .int n)] := hl
  refine lv_iload_n hx hb dX8_go_0 rfl (lv_at hl 1 rfl) ?_
  refine lv_iconst (v := 0) hx hb dX8_go_1 (by decide) ?_
  refine lv_sipush (v := 1440) hx hb dX8_go_2 (by decide) ?_
  refine ss_calli (ws := [(rb, .inr (9, [.ref rd, .ref tp, .ref rv, .ref sp, .int 0])), (rv, .inr (4, [.ref td, .ref br, .ref sh, .ref ke, .ref tt, .int 5, .int 0])), (br, .inr (0, [.int 0, .ref a0, .int 0])), (sh, .inr (0, [.int 0, .ref a0, .int 0])), (ke, .inr (0, [.int 0, .ref a0, .int 0]))]) (wc := []) (wr := [(rb, .inr (9, [.ref rd, .ref tp, .ref rv, .ref sp, .int 0])), (rv, .inr (4, [.ref td, .ref br, .ref sh, .ref ke, .ref tt, .int 5, .int 0])), (br, .inr (0, [.int 0, .ref a0, .int 0])), (sh, .inr (0, [.int 0, .ref a0, .int 0])), (ke, .inr (0, [.int 0, .ref a0, .int 0]))]) [] [0, 1, 2, 3, 4] (va_runS (As := [.int n, .int 0, .int 1440]) (rest := []) ⟨hx, hb, hml, hown, hts⟩ (c_isWithin l D cI cZ cB cO cJ a0 s.heap.size n 0 1440) (cwS 3 hts gX8_go_X8_isWithin rfl rfl rfl (by decide +kernel) ⟨Nat.le_of_ble_eq_true rfl, Nat.le_of_ble_eq_true rfl⟩) (preS_std (wc := []) [] hE hZ hA hS hP hD rfl (by decide)) rfl rfl hl.1 rfl (lv_room (Nat.le_of_ble_eq_true rfl)) dX8_go_5 ⟨Nat.le_of_ble_eq_true rfl, Nat.le_of_ble_eq_true rfl⟩) hP hD hS hA rfl rfl (by decide) (by decide) (fun r1 u H locs hw hP hD hS => ?_)
  try dsimp only at hw
  subst hw
  have hP : va_P D vwCl [(rb, .inr (9, [.ref rd, .ref tp, .ref rv, .ref sp, .int 0])), (rv, .inr (4, [.ref td, .ref br, .ref sh, .ref ke, .ref tt, .int 5, .int 0])), (br, .inr (0, [.int 0, .ref a0, .int 0])), (sh, .inr (0, [.int 0, .ref a0, .int 0])), (ke, .inr (0, [.int 0, .ref a0, .int 0]))] H := hP
  have hD : va_D A [(rb, .inr (9, [.ref rd, .ref tp, .ref rv, .ref sp, .int 0])), (rv, .inr (4, [.ref td, .ref br, .ref sh, .ref ke, .ref tt, .int 5, .int 0])), (br, .inr (0, [.int 0, .ref a0, .int 0])), (sh, .inr (0, [.int 0, .ref a0, .int 0])), (ke, .inr (0, [.int 0, .ref a0, .int 0]))] := hD
  refine lv_if_ne (tgt := 13) hx hb dX8_go_8 (by decide) (fun ca => ?_) (fun ca => ?_)
  · refine lv_iconst (v := 0) hx hb dX8_go_13 (by decide) ?_
    refine lv_istore_n (lv' := [(2, .int 0), (0, .ref rb), (1, .int n)]) hx hb dX8_go_14 rfl hl (by decide) rfl (fun ls hl => ?_)
    obtain ⟨N, hN, hn⟩ := wt_nI (M := 1440) (by decide) ca
    have hP8 := hP.sub (ws' := [(rb, .inr (9, [.ref rd, .ref tp, .ref rv, .ref sp, .int 0])), (rv, .inr (4, [.ref td, .ref br, .ref sh, .ref ke, .ref tt, .int 5, .int 0])), (br, .inr (0, [.int 0, .ref a0, .int 0])), (sh, .inr (0, [.int 0, .ref a0, .int 0])), (ke, .inr (0, [.int 0, .ref a0, .int 0]))]) [0, 1, 2, 3, 4] rfl
    have hD8 := hD.sub (ws' := [(rb, .inr (9, [.ref rd, .ref tp, .ref rv, .ref sp, .int 0])), (rv, .inr (4, [.ref td, .ref br, .ref sh, .ref ke, .ref tt, .int 5, .int 0])), (br, .inr (0, [.int 0, .ref a0, .int 0])), (sh, .inr (0, [.int 0, .ref a0, .int 0])), (ke, .inr (0, [.int 0, .ref a0, .int 0]))]) [0, 1, 2, 3, 4] (by decide) rfl
    refine ss_loop (N := N) (J := fun i H locs ls => va_P D vwCl [(rb, .inr (9, [.ref rd, .ref tp, .ref rv, .ref sp, .int 0])), (rv, .inr (4, [.ref td, .ref br, .ref sh, .ref ke, .ref tt, .int 5, .int (nI i)])), (br, .inr (0, [.int 0, .ref a0, .int 0])), (sh, .inr (0, [.int 0, .ref a0, .int 0])), (ke, .inr (0, [.int 0, .ref a0, .int 0]))] H ∧ va_D A [(rb, .inr (9, [.ref rd, .ref tp, .ref rv, .ref sp, .int 0])), (rv, .inr (4, [.ref td, .ref br, .ref sh, .ref ke, .ref tt, .int 5, .int (nI i)])), (br, .inr (0, [.int 0, .ref a0, .int 0])), (sh, .inr (0, [.int 0, .ref a0, .int 0])), (ke, .inr (0, [.int 0, .ref a0, .int 0]))] ∧ va_S A s.heap H locs ∧ lv_has ls 3 [(2, .int (nI i)), (0, .ref rb), (1, .int n)]) ?_ N 0 (by omega) _ _ ls ⟨hP8, hD8, hS, lv_sub hl [0, 1, 2] rfl⟩
    intro fu i H locs ls hi hJ ih
    obtain ⟨hP, hD, hS, hl⟩ := hJ
    cases fu with
    | zero =>
      refine lv_iload_n hx hb dX8_go_15 rfl (lv_at hl 0 rfl) ?_
      refine lv_iload_n hx hb dX8_go_16 rfl (lv_at hl 2 rfl) ?_
      refine lv_icmp_ge (tgt := 46) hx hb dX8_go_17 (by decide) (fun _ => ?_) (fun c9 => absurd (by rw [hn]; exact nI_le (by omega) (by omega)) c9)
      refine lv_aload_n hx hb dX8_go_46 rfl (lv_at hl 1 rfl) ?_
      refine va_get (D := D) (ci := 9) (v := .ref rv) (C := RX8) (T := TX8) (N := 5) hx hb hts im_X8_go_X8 hown hE.1 hP 0 rfl rfl 2 (by decide) (hts (.fieldLink RX8 24 "RiverBridges" "river" "LRiverBridges$River;") (by decide +kernel)) (fun _ h9 => h9) rfl dX8_go_47 ?_
      refine va_get (D := D) (ci := 4) (v := .int (nI i)) (C := RX3) (T := TX3) (N := 7) hx hb hts im_X8_go_X3 hown hE.1 hP 1 rfl rfl 6 (by decide) (hts (.fieldLink RX8 56 "RiverBridges$River" "minute" "I") (by decide +kernel)) (fun _ h9 => h9) rfl dX8_go_50 ?_
      have hiN : i = N := by omega
      have hP9 := hP.sub (ws' := []) [] rfl
      have hD9 := hD.sub (ws' := []) [] (by decide) rfl
      exact ss_iret () hx hb hr hlocks hP9 hD9 hS (by unfold fG; rw [if_neg ca, hn, hiN]) (Nat.le_of_ble_eq_true rfl) (Nat.le_of_ble_eq_true rfl) dX8_go_53
    | succ fu =>
      have ih := ih fu rfl
      refine lv_iload_n hx hb dX8_go_15 rfl (lv_at hl 0 rfl) ?_
      refine lv_iload_n hx hb dX8_go_16 rfl (lv_at hl 2 rfl) ?_
      refine lv_icmp_ge (tgt := 46) hx hb dX8_go_17 (by decide) (fun c9 => absurd c9 (by rw [hn]; exact nI_ge (by omega) (by omega))) (fun _ => ?_)
      refine lv_aload_n hx hb dX8_go_20 rfl (lv_at hl 1 rfl) ?_
      refine va_get (D := D) (ci := 9) (v := .ref rv) (C := RX8) (T := TX8) (N := 5) hx hb hts im_X8_go_X8 hown hE.1 hP 0 rfl rfl 2 (by decide) (hts (.fieldLink RX8 24 "RiverBridges" "river" "LRiverBridges$River;") (by decide +kernel)) (fun _ h9 => h9) rfl dX8_go_21 ?_
      refine va_get (D := D) (ci := 4) (v := .int (nI i)) (C := RX3) (T := TX3) (N := 7) hx hb hts im_X8_go_X3 hown hE.1 hP 1 rfl rfl 6 (by decide) (hts (.fieldLink RX8 56 "RiverBridges$River" "minute" "I") (by decide +kernel)) (fun _ h9 => h9) rfl dX8_go_24 ?_
      refine lv_sipush (v := 1440) hx hb dX8_go_27 (by decide) ?_
      refine lv_icmp_ge (tgt := 46) hx hb dX8_go_30 (by decide) (fun c9 => absurd c9 (nI_ge (a := i) (b := 1440) (by omega) (by omega))) (fun _ => ?_)
      refine lv_aload_n hx hb dX8_go_33 rfl (lv_at hl 1 rfl) ?_
      refine va_get (D := D) (ci := 9) (v := .ref rv) (C := RX8) (T := TX8) (N := 5) hx hb hts im_X8_go_X8 hown hE.1 hP 0 rfl rfl 2 (by decide) (hts (.fieldLink RX8 24 "RiverBridges" "river" "LRiverBridges$River;") (by decide +kernel)) (fun _ h9 => h9) rfl dX8_go_34 ?_
      refine ss_callv (ws := [(rb, .inr (9, [.ref rd, .ref tp, .ref rv, .ref sp, .int 0])), (rv, .inr (4, [.ref td, .ref br, .ref sh, .ref ke, .ref tt, .int 5, .int (nI i)])), (br, .inr (0, [.int 0, .ref a0, .int 0])), (sh, .inr (0, [.int 0, .ref a0, .int 0])), (ke, .inr (0, [.int 0, .ref a0, .int 0]))]) (wc := [(rv, .inr (4, [.ref td, .ref br, .ref sh, .ref ke, .ref tt, .int 5, .int (nI i)])), (br, .inr (0, [.int 0, .ref a0, .int 0])), (sh, .inr (0, [.int 0, .ref a0, .int 0])), (ke, .inr (0, [.int 0, .ref a0, .int 0]))]) (wr := [(rb, .inr (9, [.ref rd, .ref tp, .ref rv, .ref sp, .int 0]))]) [1, 2, 3, 4] [0] (va_runV (As := []) (rest := []) ⟨hx, hb, hml, hown, hts⟩ (c_doMinute l D cI cZ cB cO cJ a0 H.size rv td br sh ke tt 5 i) (cwV 0 hts gX8_go_X3_doMinute rfl rfl rfl (by decide +kernel) ⟨Nat.le_of_ble_eq_true rfl, Nat.le_of_ble_eq_true rfl⟩) (preV_std (wc := [(rv, .inr (4, [.ref td, .ref br, .ref sh, .ref ke, .ref tt, .int 5, .int (nI i)])), (br, .inr (0, [.int 0, .ref a0, .int 0])), (sh, .inr (0, [.int 0, .ref a0, .int 0])), (ke, .inr (0, [.int 0, .ref a0, .int 0]))]) [1, 2, 3, 4] hE hZ hA hS hP hD rfl (by decide) (fun h9 => va_recv hE.1 h9 (ci := 4) (q0 := 0) rfl rfl)) rfl rfl hl.1 rfl (lv_room (Nat.le_of_ble_eq_true rfl)) dX8_go_37 ⟨Nat.le_of_ble_eq_true rfl, Nat.le_of_ble_eq_true rfl⟩) hP hD hS hA rfl rfl (by decide) (by decide) (fun u H locs hw hP hD hS => ?_)
      try dsimp only at hw
      have hP : va_P D vwCl [(rb, .inr (9, [.ref rd, .ref tp, .ref rv, .ref sp, .int 0])), (rv, .inr (4, [.ref td, .ref br, .ref sh, .ref ke, .ref tt, .int 5, .int (nI (i + 1))])), (br, .inr (0, [.int 0, .ref a0, .int 0])), (sh, .inr (0, [.int 0, .ref a0, .int 0])), (ke, .inr (0, [.int 0, .ref a0, .int 0]))] H := hP
      have hD : va_D A [(rb, .inr (9, [.ref rd, .ref tp, .ref rv, .ref sp, .int 0])), (rv, .inr (4, [.ref td, .ref br, .ref sh, .ref ke, .ref tt, .int 5, .int (nI (i + 1))])), (br, .inr (0, [.int 0, .ref a0, .int 0])), (sh, .inr (0, [.int 0, .ref a0, .int 0])), (ke, .inr (0, [.int 0, .ref a0, .int 0]))] := hD
      refine lv_iinc (v := nI (i + 1)) (lv' := [(2, .int (nI (i + 1))), (0, .ref rb), (1, .int n)]) hx hb dX8_go_40 hl (k := 0) rfl (nI_1 i) (by decide) rfl (fun ls hl => ?_)
      refine lv_goto (tgt := 15) hx hb dX8_go_43 (by decide) ?_
      have hP8 := hP.sub (ws' := [(rb, .inr (9, [.ref rd, .ref tp, .ref rv, .ref sp, .int 0])), (rv, .inr (4, [.ref td, .ref br, .ref sh, .ref ke, .ref tt, .int 5, .int (nI (i + 1))])), (br, .inr (0, [.int 0, .ref a0, .int 0])), (sh, .inr (0, [.int 0, .ref a0, .int 0])), (ke, .inr (0, [.int 0, .ref a0, .int 0]))]) [0, 1, 2, 3, 4] rfl
      have hD8 := hD.sub (ws' := [(rb, .inr (9, [.ref rd, .ref tp, .ref rv, .ref sp, .int 0])), (rv, .inr (4, [.ref td, .ref br, .ref sh, .ref ke, .ref tt, .int 5, .int (nI (i + 1))])), (br, .inr (0, [.int 0, .ref a0, .int 0])), (sh, .inr (0, [.int 0, .ref a0, .int 0])), (ke, .inr (0, [.int 0, .ref a0, .int 0]))]) [0, 1, 2, 3, 4] (by decide) rfl
      exact ih _ _ ls ⟨hP8, hD8, hS, lv_sub hl [0, 1, 2] rfl⟩
  · refine lv_iconst (v := -1) hx hb dX8_go_11 (by decide) ?_
    have hP9 := hP.sub (ws' := []) [] rfl
    have hD9 := hD.sub (ws' := []) [] (by decide) rfl
    exact ss_iret () hx hb hr hlocks hP9 hD9 hS (by unfold fG; rw [if_pos ca]) (Nat.le_of_ble_eq_true rfl) (Nat.le_of_ble_eq_true rfl) dX8_go_12

