/-- what a throw needs beside the tables: the text, Throwable's two statics, the class itself -/
def tx (sa : Nat) (A : Nat → Prop) (U : State) (H : Heap) : Prop := vk_R RX8 148 "no such ship" sa U ∧ vx_Zq Bundle.tN "UNASSIGNED_STACK" Bundle.steD A U H ∧ vx_Zq Bundle.tN "SUPPRESSED_SENTINEL" Bundle.listD A U H ∧ va_Nw (.castable NSE NSE) U ∧ va_Nw (.declares (Bundle.initS "java/lang/RuntimeException")) U ∧ va_Nw (.declares (Bundle.initS "java/lang/Exception")) U ∧ va_Nw (.declares (Bundle.initS Bundle.tN)) U
theorem tx.go {sa : Nat} {A B : Nat → Prop} {u U : State} {H H1 : Heap} (h : tx sa A u H) (hW : u.WarmedH U.vm) (hq : ∀ a : Nat, a < H.size → ¬ A a → H1[a]? = H[a]?) (hAB : ∀ q, B q → A q) : tx sa B U H1 :=
  ⟨h.1.warm hW, ((h.2.1.moved hW.alike).kept hq).narrow hAB, ((h.2.2.1.moved hW.alike).kept hq).narrow hAB, va_Nw.warmC hW h.2.2.2.1, va_Nw.warmD hW h.2.2.2.2.1, va_Nw.warmD hW h.2.2.2.2.2.1, va_Nw.warmD hW h.2.2.2.2.2.2⟩
def Pct (D : va_G) (cI cZ cB cO cJ : ClassId) (a0 sa : Nat) (av : List Value) (ws : va_W) (sz : Nat) : Array Value → State → Prop :=
  fun v U => Pcs D cI cZ cB cO cJ a0 av ws sz v U ∧ tx sa (va_A ws sz) U U.heap
theorem Pct.blind {D : va_G} {cI cZ cB cO cJ : ClassId} {a0 sa : Nat} {av : List Value} {ws : va_W} {sz : Nat} : FrameBlind (Pct D cI cZ cB cO cJ a0 sa av ws sz) :=
  fun a U g mk q => ⟨Pcs.blind a U g mk q.1, vk_R.same rfl q.2.1, q.2.2.1.moved (Vm.Alike.refl U.vm), q.2.2.2.1.moved (Vm.Alike.refl U.vm), va_Nw.same rfl rfl q.2.2.2.2.1, va_Nw.same rfl rfl q.2.2.2.2.2.1, va_Nw.same rfl rfl q.2.2.2.2.2.2.1, va_Nw.same rfl rfl q.2.2.2.2.2.2.2⟩
theorem preS_t {D : va_G} {cI cZ cB cO cJ : ClassId} {a0 sa : Nat} {s : State} {H : Heap} {locs : List Loc} {ws wc : va_W} {A : Nat → Prop} {As : List Value} (isC : List Nat) (hE : ev D cI cZ cB cO cJ s) (hZ : zz a0 A s s.heap) (hT : tx sa A s s.heap) (hA : ∀ q, s.heap.size ≤ q → A q) (hS : va_S A s.heap H locs) (hP : va_P D vwCl ws H) (hD : va_D A ws) (hC : isC.map (fun i => ws[i]?) = wc.map some) (hn : va_nd isC = true) : PreS s H (Pct D cI cZ cB cO cJ a0 sa As wc H.size) As := by
  have q9 := preS_std (As := As) isC hE hZ hA hS hP hD hC hn
  have hFc := va_free (wc := wc) hD hS hA isC hC
  exact ⟨Pct.blind, fun U hU hW => ⟨q9.2 U hU hW, hT.go hW (fun q h1 h2 => by rw [hU]; exact hS.2.1 q h1 h2) hFc⟩⟩
theorem preV_t {D : va_G} {cI cZ cB cO cJ : ClassId} {a0 sa : Nat} {s : State} {H : Heap} {locs : List Loc} {ws wc : va_W} {A : Nat → Prop} {C : String} {b : Nat} {As : List Value} (isC : List Nat) (hE : ev D cI cZ cB cO cJ s) (hZ : zz a0 A s s.heap) (hT : tx sa A s s.heap) (hA : ∀ q, s.heap.size ≤ q → A q) (hS : va_S A s.heap H locs) (hP : va_P D vwCl ws H) (hD : va_D A ws) (hC : isC.map (fun i => ws[i]?) = wc.map some) (hn : va_nd isC = true)
    (hr : va_P D vwCl wc H → ∃ cell : Cell, H[b]? = some cell ∧ cell.vm.isStatics = false ∧ s.vm.findClass C = some cell.cls) : PreV s H C b (Pct D cI cZ cB cO cJ a0 sa (.ref b :: As) wc H.size) As := by
  have q8 := preV_std (As := As) isC hE hZ hA hS hP hD hC hn hr
  have q9 := preS_t (As := .ref b :: As) isC hE hZ hT hA hS hP hD hC hn
  exact ⟨q9.1, q8.2.1, q9.2⟩

set_option maxHeartbeats 400000 in
set_option maxRecDepth 100000 in
theorem c_told (l : Launch) (hst : l.stackTraces = false) (D : va_G) (cI cZ cB cO cJ : ClassId) (a0 : Nat) (sz : Nat) (rb rd tp rv sp td br sh ke tt : Nat) (sa : Nat) (b d : Int32) : vx_Met l yX8_told wsT ({ frames := 6, cells := 1, slots := 6, locals := 82 }) (Pct D cI cZ cB cO cJ a0 sa [.ref rb, .int b, .int d] [(rb, .inr (9, [.ref rd, .ref tp, .ref rv, .ref sp, .int 0])), (rv, .inr (4, [.ref td, .ref br, .ref sh, .ref ke, .ref tt, .int 5, .int 0])), (sh, .inr (0, [.int 0, .ref a0, .int 0]))] sz) (va_Qi (fun (r : Int32) (u : Unit) => False) (fun (u : Unit) t => True) (va_A [(rb, .inr (9, [.ref rd, .ref tp, .ref rv, .ref sp, .int 0])), (rv, .inr (4, [.ref td, .ref br, .ref sh, .ref ke, .ref tt, .int 5, .int 0])), (sh, .inr (0, [.int 0, .ref a0, .int 0]))] sz)) (vx_X (fun (_ : Unit) => True) (fun E _ _ => E = NSE) (va_A [(rb, .inr (9, [.ref rd, .ref tp, .ref rv, .ref sp, .int 0])), (rv, .inr (4, [.ref td, .ref br, .ref sh, .ref ke, .ref tt, .int 5, .int 0])), (sh, .inr (0, [.int 0, .ref a0, .int 0]))] sz)) 1 6 (va_A [(rb, .inr (9, [.ref rd, .ref tp, .ref rv, .ref sp, .int 0])), (rv, .inr (4, [.ref td, .ref br, .ref sh, .ref ke, .ref tt, .int 5, .int 0])), (sh, .inr (0, [.int 0, .ref a0, .int 0]))] sz) := by
  refine vx_ofW (cc := cX8_told) (maxL := 4) (ret := (some .int)) (by decide) rfl ?_
  intro p e s m args below meth c s₁ B hml htab hv
  obtain ⟨⟨rfl, hsz, hP, hE, hD0, hZ⟩, hT⟩ := hv
  have hx := B.exec
  have hb := B.bytes
  have hr := B.returns
  have hts := atoms_spec (ws := wsT) B.pre
  have hown : s.vm.findClass RX8 = some m.cls := findClass_of_methodNamed B.named
  have hlocks := B.notSynchronized
  subst hsz
  have hD := hD0.self (sz := s.heap.size)
  generalize hAe : va_A [(rb, .inr (9, [.ref rd, .ref tp, .ref rv, .ref sp, .int 0])), (rv, .inr (4, [.ref td, .ref br, .ref sh, .ref ke, .ref tt, .int 5, .int 0])), (sh, .inr (0, [.int 0, .ref a0, .int 0]))] s.heap.size = A at hD hZ hT ⊢
  have hA : ∀ q : Nat, s.heap.size ≤ q → A q := fun q h => by rw [← hAe]; exact Or.inr h
  have hS : va_S A s.heap s.heap [] := va_S.rf
  have hP : va_P D vwCl [(rb, .inr (9, [.ref rd, .ref tp, .ref rv, .ref sp, .int 0])), (rv, .inr (4, [.ref td, .ref br, .ref sh, .ref ke, .ref tt, .int 5, .int 0])), (sh, .inr (0, [.int 0, .ref a0, .int 0]))] s.heap := hP
  have hl := lv_entry ([.ref rb, .int b, .int d]) (n := 4) (Nat.le_of_ble_eq_true rfl)
  rw [lg_entry_eq]
  generalize (lg_sl ([.ref rb, .int b, .int d]) ++ List.replicate (4 - (lg_sl ([.ref rb, .int b, .int d])).length) Slot.unset).toArray = ls at hl ⊢
  have hl : lv_has ls 4 [(0, .ref rb), (1, .int b), (2, .int d)] := hl
  refine lv_aload_n hx hb dX8_told_0 rfl (lv_at hl 0 rfl) ?_
  refine lv_iload_n hx hb dX8_told_1 rfl (lv_at hl 1 rfl) ?_
  refine ss_calli (ws := [(rb, .inr (9, [.ref rd, .ref tp, .ref rv, .ref sp, .int 0])), (rv, .inr (4, [.ref td, .ref br, .ref sh, .ref ke, .ref tt, .int 5, .int 0])), (sh, .inr (0, [.int 0, .ref a0, .int 0]))]) (wc := [(rb, .inr (9, [.ref rd, .ref tp, .ref rv, .ref sp, .int 0])), (rv, .inr (4, [.ref td, .ref br, .ref sh, .ref ke, .ref tt, .int 5, .int 0])), (sh, .inr (0, [.int 0, .ref a0, .int 0]))]) (wr := []) [0, 1, 2] [] (va_runV (As := [.int b]) (rest := []) ⟨hx, hb, hml, hown, hts⟩ (c_isShip l D cI cZ cB cO cJ a0 s.heap.size rb rd tp rv sp td br sh ke tt b) (cwV 1 hts gT_isShip rfl rfl rfl (by decide +kernel) ⟨Nat.le_of_ble_eq_true rfl, Nat.le_of_ble_eq_true rfl⟩) (preV_std (wc := [(rb, .inr (9, [.ref rd, .ref tp, .ref rv, .ref sp, .int 0])), (rv, .inr (4, [.ref td, .ref br, .ref sh, .ref ke, .ref tt, .int 5, .int 0])), (sh, .inr (0, [.int 0, .ref a0, .int 0]))]) [0, 1, 2] hE hZ hA hS hP hD rfl (by decide) (fun h9 => va_recv hE.1 h9 (ci := 9) (q0 := 0) rfl rfl)) rfl rfl hl.1 rfl (lv_room (Nat.le_of_ble_eq_true rfl)) dX8_told_2 ⟨Nat.le_of_ble_eq_true rfl, Nat.le_of_ble_eq_true rfl⟩) hP hD hS hA rfl rfl (by decide) (by decide) (fun r1 u H locs hw hP hD hS => ?_)
  try dsimp only at hw
  subst hw
  have hP : va_P D vwCl [(rb, .inr (9, [.ref rd, .ref tp, .ref rv, .ref sp, .int 0])), (rv, .inr (4, [.ref td, .ref br, .ref sh, .ref ke, .ref tt, .int 5, .int 0])), (sh, .inr (0, [.int 0, .ref a0, .int 0]))] H := hP
  have hD : va_D A [(rb, .inr (9, [.ref rd, .ref tp, .ref rv, .ref sp, .int 0])), (rv, .inr (4, [.ref td, .ref br, .ref sh, .ref ke, .ref tt, .int 5, .int 0])), (sh, .inr (0, [.int 0, .ref a0, .int 0]))] := hD
  refine lv_if_ne (tgt := 18) hx hb dX8_told_5 (by decide) (fun c9 => absurd (by decide) c9) (fun _ => ?_)
  have hat : ∀ w ∈ tw_at, w.before _ s = true := vx_hat (fun w hw => hts w (List.mem_cons_of_mem _ (List.mem_append_right _ hw))) (B := tw_B) tw_rest (vx_c (va_Nw.use rfl hT.2.2.2.1) (vx_c (va_Nw.use rfl hT.2.2.2.2.1) (vx_c (va_Nw.use rfl hT.2.2.2.2.2.1) (vx_c (va_Nw.use rfl hT.2.2.2.2.2.2) vx_n))))
  refine tw_throw (pc := 8) (own := RX8) (cls := NSE) (sup := "java/lang/RuntimeException") (text := "no such ship") (names := ["java/lang/Exception"]) (ik := 146) (is := 148) (ic := 150) (ix := 13) (bs := nse_code) (sa := sa) (A := A) hx hb hst hown (by decide +kernel) (by decide +kernel) (by decide +kernel) nse_0 nse_1 nse_2 nse_5 (hts (.classLink RX8 146 NSE) (by decide +kernel)) (hts (.initialized NSE) (by decide +kernel)) hT.1 hat tw_ot hT.2.1 hT.2.2.1 hS (by rw [hml]; exact hl.1) dX8_told_8 dX8_told_11 dX8_told_12 dX8_told_14 dX8_told_17 (fun x hx9 => absurd (htab x hx9) id) (by decide +kernel) (Nat.le_of_ble_eq_true rfl) (Nat.le_of_ble_eq_true rfl) (Nat.le_of_ble_eq_true rfl) hlocks ?_ hS.2.2 (Nat.le_of_ble_eq_true rfl) (Nat.le_of_ble_eq_true rfl)
  intro t hvm hz hq
  exact ⟨(), trivial, rfl, Nat.le_trans hS.1 hz, fun q h1 h2 => (hq q (Nat.lt_of_lt_of_le h1 hS.1)).trans (hS.2.1 q h1 h2)⟩
set_option maxHeartbeats 400000 in
set_option maxRecDepth 100000 in
theorem c_Ltold (l : Launch) (hst : l.stackTraces = false) (D : va_G) (cI cZ cB cO cJ : ClassId) (a0 : Nat) (sz : Nat) (rb rd tp rv sp td br sh ke tt : Nat) (sa oo : Nat) (b d : Int32) : Met l yL_told wsLT ({ frames := 7, cells := 1, slots := 6, locals := 105 }) (Pct D cI cZ cB cO cJ a0 sa [.ref rb, .int b, .int d, .ref oo] [(rb, .inr (9, [.ref rd, .ref tp, .ref rv, .ref sp, .int 0])), (rv, .inr (4, [.ref td, .ref br, .ref sh, .ref ke, .ref tt, .int 5, .int 0])), (sh, .inr (0, [.int 0, .ref a0, .int 0]))] sz) (va_Qi (fun (r : Int32) (u : Unit) => r = 1) (fun (u : Unit) t => va_P D vwCl [] t.heap ∧ va_D (va_A [(rb, .inr (9, [.ref rd, .ref tp, .ref rv, .ref sp, .int 0])), (rv, .inr (4, [.ref td, .ref br, .ref sh, .ref ke, .ref tt, .int 5, .int 0])), (sh, .inr (0, [.int 0, .ref a0, .int 0]))] sz) []) (va_A [(rb, .inr (9, [.ref rd, .ref tp, .ref rv, .ref sp, .int 0])), (rv, .inr (4, [.ref td, .ref br, .ref sh, .ref ke, .ref tt, .int 5, .int 0])), (sh, .inr (0, [.int 0, .ref a0, .int 0]))] sz)) 1 6 (va_A [(rb, .inr (9, [.ref rd, .ref tp, .ref rv, .ref sp, .int 0])), (rv, .inr (4, [.ref td, .ref br, .ref sh, .ref ke, .ref tt, .int 5, .int 0])), (sh, .inr (0, [.int 0, .ref a0, .int 0]))] sz) := by
  refine va_MetW (cc := cL_told) (maxL := 5) (ret := (some .int)) (hh := [(0, 10, 13, 13)]) (by decide) rfl ?_
  intro p e s m args below meth c s₁ B hml hv
  obtain ⟨⟨rfl, hsz, hP, hE, hD0, hZ⟩, hT⟩ := hv
  have hx := B.exec
  have hb := B.bytes
  have hr := B.returns
  have hts := atoms_spec (ws := wsLT) B.pre
  have hown : s.vm.findClass RL = some m.cls := findClass_of_methodNamed B.named
  have hlocks := B.notSynchronized
  subst hsz
  have hD := hD0.self (sz := s.heap.size)
  generalize hAe : va_A [(rb, .inr (9, [.ref rd, .ref tp, .ref rv, .ref sp, .int 0])), (rv, .inr (4, [.ref td, .ref br, .ref sh, .ref ke, .ref tt, .int 5, .int 0])), (sh, .inr (0, [.int 0, .ref a0, .int 0]))] s.heap.size = A at hD hZ hT ⊢
  have hA : ∀ q : Nat, s.heap.size ≤ q → A q := fun q h => by rw [← hAe]; exact Or.inr h
  have hS : va_S A s.heap s.heap [] := va_S.rf
  have hP : va_P D vwCl [(rb, .inr (9, [.ref rd, .ref tp, .ref rv, .ref sp, .int 0])), (rv, .inr (4, [.ref td, .ref br, .ref sh, .ref ke, .ref tt, .int 5, .int 0])), (sh, .inr (0, [.int 0, .ref a0, .int 0]))] s.heap := hP
  have hl := lv_entry ([.ref rb, .int b, .int d, .ref oo]) (n := 5) (Nat.le_of_ble_eq_true rfl)
  rw [lg_entry_eq]
  generalize (lg_sl ([.ref rb, .int b, .int d, .ref oo]) ++ List.replicate (5 - (lg_sl ([.ref rb, .int b, .int d, .ref oo])).length) Slot.unset).toArray = ls at hl ⊢
  have hl : lv_has ls 5 [(0, .ref rb), (1, .int b), (2, .int d), (3, .ref oo)] := hl
  have htab := vx_table (x := yL_told) B (hts _ List.mem_cons_self)
  refine lv_aload_n hx hb dL_told_0 rfl (lv_at hl 3 rfl) ?_
  refine lv_iconst (v := 0) hx hb dL_told_1 (by decide) ?_
  refine lv_aload_n hx hb dL_told_2 rfl (lv_at hl 0 rfl) ?_
  refine lv_iload_n hx hb dL_told_3 rfl (lv_at hl 1 rfl) ?_
  refine lv_iload_n hx hb dL_told_4 rfl (lv_at hl 2 rfl) ?_
  have hFc := va_free (wc := [(rb, .inr (9, [.ref rd, .ref tp, .ref rv, .ref sp, .int 0])), (rv, .inr (4, [.ref td, .ref br, .ref sh, .ref ke, .ref tt, .int 5, .int 0])), (sh, .inr (0, [.int 0, .ref a0, .int 0]))]) hD hS hA [0, 1, 2] rfl
  refine vx_calli (vx_runV (As := [.int b, .int d]) (rest := [.int 0, .ref oo]) ⟨hx, hb, hml, hown, hts⟩ (c_told l hst D cI cZ cB cO cJ a0 s.heap.size rb rd tp rv sp td br sh ke tt sa b d) (cwV 2 hts gL_told_X8_told rfl rfl rfl (by decide +kernel) ⟨Nat.le_of_ble_eq_true rfl, Nat.le_of_ble_eq_true rfl⟩) (preV_t (wc := [(rb, .inr (9, [.ref rd, .ref tp, .ref rv, .ref sp, .int 0])), (rv, .inr (4, [.ref td, .ref br, .ref sh, .ref ke, .ref tt, .int 5, .int 0])), (sh, .inr (0, [.int 0, .ref a0, .int 0]))]) [0, 1, 2] hE hZ hT hA hS hP hD rfl (by decide) (fun h9 => va_recv hE.1 h9 (ci := 9) (q0 := 0) rfl rfl)) rfl rfl hl.1 rfl (lv_room (Nat.le_of_ble_eq_true rfl)) dL_told_5 ⟨Nat.le_of_ble_eq_true rfl, Nat.le_of_ble_eq_true rfl⟩) hS (fun q _ h => hFc q h) hFc (fun q _ h => hFc q h) ?_ (fun r u t H1 locs1 ht hvm hw hB hz1 hk1 hS1 => absurd hw id)
  intro E ce q9 u t H1 locs1 ht hvm hp hBX hz hk hS1 hce hcv hcl
  have hE9 : E = NSE := hBX
  subst hE9
  refine vx_catch (own := RL) (name := NSE) hown [] ⟨0, 10, 13, 13⟩ [] (by rw [htab]; rfl) (fun z hz9 => by cases hz9) (by decide) (by decide) (hts (.classLink RL 13 NSE) (by decide +kernel)) (va_Nw.use rfl hT.2.2.2.1) hce hcv hcl ?_
  refine W.eq (g2 := F0 m 13 ls [.ref q9]) rfl ?_
  refine lv_astore (lv' := [(4, .ref q9), (0, .ref rb), (1, .int b), (2, .int d), (3, .ref oo)]) hx hb dL_told_13 hl (by decide) rfl (fun ls hl => ?_)
  refine lv_iconst (v := 1) hx hb dL_told_15 (by decide) ?_
  exact ss_iret (D := D) (WF := fun _ => []) () hx hb hr hlocks (fun k q h => by simp at h) ⟨fun i j p q h => by simp at h, fun k q h => by simp at h⟩ hS1 rfl (Nat.le_of_ble_eq_true rfl) (Nat.le_of_ble_eq_true rfl) dL_told_16
