theorem hne {x : Int32} {n N : Nat} (e : x = nI n) (h : n ≤ N) (hn : ¬ x = nI N) : n < N := by
  rcases Nat.lt_or_ge n N with h1 | h1
  · exact h1
  · have : n = N := by omega
    subst this
    exact absurd e hn
theorem ixN_lt {v x : Int32} {n : Nat} (e : x = nI n) (hn : n < 2 ^ 31) (h0 : ¬ v < 0) (h1 : v < x) : ixN v n := by
  obtain ⟨j, hj, rfl⟩ := nI_of h0
  refine ⟨j, ?_, rfl⟩
  rw [e, nI_ltI hj hn] at h1
  exact h1
def f_keeps (u : RS) (kp : Int32) (what : Int32) : Int32 × RS := (if kp < 0 then (-1, (sg u 0 0)) else (if kp < u.1 44 then (if what = 0 then (u.2.2 41 kp.toNatClampNeg, (sg u 0 0)) else (if what = 1 then (u.2.2 42 kp.toNatClampNeg, (sg u 0 0)) else (if what = 2 then (u.2.2 43 kp.toNatClampNeg, (sg u 0 0)) else (-1, (sg u 0 0))))) else (-1, (sg u 0 0))))
theorem f_keeps_s (u : RS) (kp : Int32) (what : Int32) : f_keeps u kp what = (if kp < 0 then (-1, (sg u 0 0)) else (if kp < u.1 44 then (if what = 0 then (u.2.2 41 kp.toNatClampNeg, (sg u 0 0)) else (if what = 1 then (u.2.2 42 kp.toNatClampNeg, (sg u 0 0)) else (if what = 2 then (u.2.2 43 kp.toNatClampNeg, (sg u 0 0)) else (-1, (sg u 0 0))))) else (-1, (sg u 0 0)))) := rfl
theorem im_X9_keeps_X9 : ∀ w ∈ wsX90, w ∈ wsX9_keeps := fun _ h => List.mem_cons_of_mem _ (List.mem_append_right _ h)
set_option maxHeartbeats 400000 in
set_option maxRecDepth 100000 in
theorem m_keeps (l : Launch) (D : va_G) (cI cZ cB cO cJ : ClassId) (a0 sz : Nat) (a : Nat → Nat) (nB nS nK mi ln : Nat) (u : RS) (kp : Int32) (what : Int32) (hI : MI nB nS nK mi ln u) : Met l yX9_keeps wsX9_keeps ({ frames := 0, cells := 0, slots := 0, locals := 0 }) (Pcs D cI cZ cB cO cJ a0 [.ref (a 45), .int kp, .int what] (WM cI cZ cB a u) sz) (va_Qi (fun (r : Int32) (_ : Unit) => r = (f_keeps u kp what).1) (fun (_ : Unit) t => va_P D vwCl (WM cI cZ cB a (f_keeps u kp what).2) t.heap ∧ va_D (va_A (WM cI cZ cB a u) sz) (WM cI cZ cB a (f_keeps u kp what).2)) (va_A (WM cI cZ cB a u) sz)) 0 0 (va_A (WM cI cZ cB a u) sz) := by
  refine Met.ofW (cc := cX9_keeps) (maxL := 3) (ret := (some .int)) (by decide) rfl ?_
  intro p e s m args below meth c s₁ B hml hv
  obtain ⟨rfl, hsz, hP, hE, hD0, hZ⟩ := hv
  have hx := B.exec
  have hb := B.bytes
  have hr := B.returns
  have hts := atoms_spec (ws := wsX9_keeps) B.pre
  have hown : s.vm.findClass RX9 = some m.cls := findClass_of_methodNamed B.named
  have hlocks := B.notSynchronized
  subst hsz
  have hD := hD0.self (sz := s.heap.size)
  generalize hAe : va_A (WM cI cZ cB a u) s.heap.size = A at hD hZ ⊢
  have hA : ∀ q : Nat, s.heap.size ≤ q → A q := fun q h => by rw [← hAe]; exact Or.inr h
  clear hAe
  have hS : va_S A s.heap s.heap [] := va_S.rf
  have hP : va_P D vwCl (WM cI cZ cB a u) s.heap := hP
  have hl := lv_entry ([.ref (a 45), .int kp, .int what]) (n := 3) (Nat.le_of_ble_eq_true rfl)
  rw [lg_entry_eq]
  generalize (lg_sl ([.ref (a 45), .int kp, .int what]) ++ List.replicate (3 - (lg_sl ([.ref (a 45), .int kp, .int what])).length) Slot.unset).toArray = ls at hl ⊢
  have hl : lv_has ls 3 [(0, .ref (a 45)), (1, .int kp), (2, .int what)] := hl
  have hf := f_keeps_s u kp what
  refine lv_aload_n hx hb dX9_keeps_0 rfl (lv_at hl 0 rfl) ?_
  refine lv_iconst (v := 0) hx hb dX9_keeps_1 (by decide) ?_
  refine va_put (D := D) (ci := 10) (v := .int 0) (ty := .int) (C := RX9) (T := TX9) (N := 45) hx hb hts im_X9_keeps_X9 tyX9 tyX9_ok nmX9 hown hE.1 hP hD hS 0 rfl rfl 0 (by decide) (hts (.fieldLink RX9 103 "RiverBridgesModel" "thrown" "I") (by decide +kernel)) (fun _ h9 => h9) rfl (by decide +kernel) rfl rfl (Nat.le_of_ble_eq_true rfl) dX9_keeps_2 (fun H locs hP hD hS => ?_)
  have hP := va_P_eq (WM_g0 cI cZ cB a u 0) hP
  have hD := va_D_eq (WM_g0 cI cZ cB a u 0) hD
  refine lv_iload_n hx hb dX9_keeps_5 rfl (lv_at hl 1 rfl) ?_
  refine lv_if_lt (tgt := 17) hx hb dX9_keeps_6 (by decide) (fun c1 => ?_) (fun c1 => ?_)
  · replace hf := hf.trans (if_pos c1)
    refine lv_iconst (v := -1) hx hb dX9_keeps_17 (by decide) ?_
    exact ss_iret () hx hb hr hlocks (by rw [hf]; exact hP) (by rw [hf]; exact hD) hS (by rw [hf]) (Nat.le_of_ble_eq_true rfl) (Nat.le_of_ble_eq_true rfl) dX9_keeps_18
  · replace hf := hf.trans (if_neg c1)
    refine lv_iload_n hx hb dX9_keeps_9 rfl (lv_at hl 1 rfl) ?_
    refine lv_aload_n hx hb dX9_keeps_10 rfl (lv_at hl 0 rfl) ?_
    refine va_get (D := D) (ci := 10) (v := .int (u.1 44)) (C := RX9) (T := TX9) (N := 45) hx hb hts im_X9_keeps_X9 hown hE.1 hP 0 rfl rfl 44 (by decide) (hts (.fieldLink RX9 215 "RiverBridgesModel" "keepers" "I") (by decide +kernel)) (fun _ h9 => h9) rfl dX9_keeps_11 ?_
    refine lv_icmp_lt (tgt := 19) hx hb dX9_keeps_14 (by decide) (fun c1k => ?_) (fun c1k => ?_)
    · replace hf := hf.trans (if_pos c1k)
      have i1 : vp_in kp 4 := (ixN_lt hI.nK.1 (by have := hI.nK.2; omega) c1 c1k).inn hI.nK.2 (by omega)
      refine lv_iload_n hx hb dX9_keeps_19 rfl (lv_at hl 2 rfl) ?_
      refine lv_if_ne (tgt := 32) hx hb dX9_keeps_20 (by decide) (fun c1 => ?_) (fun c1 => ?_)
      · replace hf := hf.trans (if_neg c1)
        refine lv_iload_n hx hb dX9_keeps_32 rfl (lv_at hl 2 rfl) ?_
        refine lv_iconst (v := 1) hx hb dX9_keeps_33 (by decide) ?_
        refine lv_icmp_ne (tgt := 46) hx hb dX9_keeps_34 (by decide) (fun c2 => ?_) (fun c2 => ?_)
        · replace hf := hf.trans (if_neg c2)
          refine lv_iload_n hx hb dX9_keeps_46 rfl (lv_at hl 2 rfl) ?_
          refine lv_iconst (v := 2) hx hb dX9_keeps_47 (by decide) ?_
          refine lv_icmp_ne (tgt := 60) hx hb dX9_keeps_48 (by decide) (fun c3 => ?_) (fun c3 => ?_)
          · replace hf := hf.trans (if_neg c3)
            refine lv_iconst (v := -1) hx hb dX9_keeps_60 (by decide) ?_
            exact ss_iret () hx hb hr hlocks (by rw [hf]; exact hP) (by rw [hf]; exact hD) hS (by rw [hf]) (Nat.le_of_ble_eq_true rfl) (Nat.le_of_ble_eq_true rfl) dX9_keeps_61
          · replace hf := hf.trans (if_pos c3)
            refine lv_aload_n hx hb dX9_keeps_51 rfl (lv_at hl 0 rfl) ?_
            refine va_get (D := D) (ci := 10) (v := .ref (a 43)) (C := RX9) (T := TX9) (N := 45) hx hb hts im_X9_keeps_X9 hown hE.1 hP 0 rfl rfl 43 (by decide) (hts (.fieldLink RX9 100 "RiverBridgesModel" "keeperDue" "[I") (by decide +kernel)) (fun _ h9 => h9) rfl dX9_keeps_52 ?_
            refine lv_iload_n hx hb dX9_keeps_55 rfl (lv_at hl 1 rfl) ?_
            refine lx_iald (v := u.2.2 43 kp.toNatClampNeg) hx hb hE.1 hP 29 0 rfl rfl (by assumption) (rfl) dX9_keeps_56 ?_
            refine lv_goto (tgt := 61) hx hb dX9_keeps_57 (by decide) ?_
            exact ss_iret () hx hb hr hlocks (by rw [hf]; exact hP) (by rw [hf]; exact hD) hS (by rw [hf]) (Nat.le_of_ble_eq_true rfl) (Nat.le_of_ble_eq_true rfl) dX9_keeps_61
        · replace hf := hf.trans (if_pos c2)
          refine lv_aload_n hx hb dX9_keeps_37 rfl (lv_at hl 0 rfl) ?_
          refine va_get (D := D) (ci := 10) (v := .ref (a 42)) (C := RX9) (T := TX9) (N := 45) hx hb hts im_X9_keeps_X9 hown hE.1 hP 0 rfl rfl 42 (by decide) (hts (.fieldLink RX9 97 "RiverBridgesModel" "keeperTo" "[I") (by decide +kernel)) (fun _ h9 => h9) rfl dX9_keeps_38 ?_
          refine lv_iload_n hx hb dX9_keeps_41 rfl (lv_at hl 1 rfl) ?_
          refine lx_iald (v := u.2.2 42 kp.toNatClampNeg) hx hb hE.1 hP 28 0 rfl rfl (by assumption) (rfl) dX9_keeps_42 ?_
          refine lv_goto (tgt := 61) hx hb dX9_keeps_43 (by decide) ?_
          exact ss_iret () hx hb hr hlocks (by rw [hf]; exact hP) (by rw [hf]; exact hD) hS (by rw [hf]) (Nat.le_of_ble_eq_true rfl) (Nat.le_of_ble_eq_true rfl) dX9_keeps_61
      · replace hf := hf.trans (if_pos c1)
        refine lv_aload_n hx hb dX9_keeps_23 rfl (lv_at hl 0 rfl) ?_
        refine va_get (D := D) (ci := 10) (v := .ref (a 41)) (C := RX9) (T := TX9) (N := 45) hx hb hts im_X9_keeps_X9 hown hE.1 hP 0 rfl rfl 41 (by decide) (hts (.fieldLink RX9 94 "RiverBridgesModel" "keeperAt" "[I") (by decide +kernel)) (fun _ h9 => h9) rfl dX9_keeps_24 ?_
        refine lv_iload_n hx hb dX9_keeps_27 rfl (lv_at hl 1 rfl) ?_
        refine lx_iald (v := u.2.2 41 kp.toNatClampNeg) hx hb hE.1 hP 27 0 rfl rfl (by assumption) (rfl) dX9_keeps_28 ?_
        refine lv_goto (tgt := 61) hx hb dX9_keeps_29 (by decide) ?_
        exact ss_iret () hx hb hr hlocks (by rw [hf]; exact hP) (by rw [hf]; exact hD) hS (by rw [hf]) (Nat.le_of_ble_eq_true rfl) (Nat.le_of_ble_eq_true rfl) dX9_keeps_61
    · replace hf := hf.trans (if_neg c1k)
      refine lv_iconst (v := -1) hx hb dX9_keeps_17 (by decide) ?_
      exact ss_iret () hx hb hr hlocks (by rw [hf]; exact hP) (by rw [hf]; exact hD) hS (by rw [hf]) (Nat.le_of_ble_eq_true rfl) (Nat.le_of_ble_eq_true rfl) dX9_keeps_18
def f_barred (u : RS) (b : Int32) (tm : Int32) : Int32 × RS := (if f_isBridge (sg u 0 0) b = 0 then (-1, (sg u 0 0)) else (if f_isIn (sg u 0 0) tm 0 1440 = 0 then (-1, (sg u 0 0)) else (if f_isBarred (sg u 0 0) b tm tm = 0 then (0, (sg u 0 0)) else (1, (sg u 0 0)))))
theorem f_barred_s (u : RS) (b : Int32) (tm : Int32) : f_barred u b tm = (if f_isBridge (sg u 0 0) b = 0 then (-1, (sg u 0 0)) else (if f_isIn (sg u 0 0) tm 0 1440 = 0 then (-1, (sg u 0 0)) else (if f_isBarred (sg u 0 0) b tm tm = 0 then (0, (sg u 0 0)) else (1, (sg u 0 0))))) := rfl
theorem im_X9_barred_X9 : ∀ w ∈ wsX90, w ∈ wsX9_barred := fun _ h => List.mem_cons_of_mem _ (List.mem_append_right _ h)
set_option maxHeartbeats 400000 in
set_option maxRecDepth 100000 in
theorem m_barred (l : Launch) (D : va_G) (cI cZ cB cO cJ : ClassId) (a0 sz : Nat) (a : Nat → Nat) (nB nS nK mi ln : Nat) (u : RS) (b : Int32) (tm : Int32) (hI : MI nB nS nK mi ln u) : Met l yX9_barred wsX9_barred ({ frames := 1, cells := 0, slots := 0, locals := 24 }) (Pcs D cI cZ cB cO cJ a0 [.ref (a 45), .int b, .int tm] (WM cI cZ cB a u) sz) (va_Qi (fun (r : Int32) (_ : Unit) => r = (f_barred u b tm).1) (fun (_ : Unit) t => va_P D vwCl (WM cI cZ cB a (f_barred u b tm).2) t.heap ∧ va_D (va_A (WM cI cZ cB a u) sz) (WM cI cZ cB a (f_barred u b tm).2)) (va_A (WM cI cZ cB a u) sz)) 0 0 (va_A (WM cI cZ cB a u) sz) := by
  refine Met.ofW (cc := cX9_barred) (maxL := 3) (ret := (some .int)) (by decide) rfl ?_
  intro p e s m args below meth c s₁ B hml hv
  obtain ⟨rfl, hsz, hP, hE, hD0, hZ⟩ := hv
  have hx := B.exec
  have hb := B.bytes
  have hr := B.returns
  have hts := atoms_spec (ws := wsX9_barred) B.pre
  have hown : s.vm.findClass RX9 = some m.cls := findClass_of_methodNamed B.named
  have hlocks := B.notSynchronized
  subst hsz
  have hD := hD0.self (sz := s.heap.size)
  generalize hAe : va_A (WM cI cZ cB a u) s.heap.size = A at hD hZ ⊢
  have hA : ∀ q : Nat, s.heap.size ≤ q → A q := fun q h => by rw [← hAe]; exact Or.inr h
  clear hAe
  have hS : va_S A s.heap s.heap [] := va_S.rf
  have hP : va_P D vwCl (WM cI cZ cB a u) s.heap := hP
  have hl := lv_entry ([.ref (a 45), .int b, .int tm]) (n := 3) (Nat.le_of_ble_eq_true rfl)
  rw [lg_entry_eq]
  generalize (lg_sl ([.ref (a 45), .int b, .int tm]) ++ List.replicate (3 - (lg_sl ([.ref (a 45), .int b, .int tm])).length) Slot.unset).toArray = ls at hl ⊢
  have hl : lv_has ls 3 [(0, .ref (a 45)), (1, .int b), (2, .int tm)] := hl
  have hf := f_barred_s u b tm
  refine lv_aload_n hx hb dX9_barred_0 rfl (lv_at hl 0 rfl) ?_
  refine lv_iconst (v := 0) hx hb dX9_barred_1 (by decide) ?_
  refine va_put (D := D) (ci := 10) (v := .int 0) (ty := .int) (C := RX9) (T := TX9) (N := 45) hx hb hts im_X9_barred_X9 tyX9 tyX9_ok nmX9 hown hE.1 hP hD hS 0 rfl rfl 0 (by decide) (hts (.fieldLink RX9 103 "RiverBridgesModel" "thrown" "I") (by decide +kernel)) (fun _ h9 => h9) rfl (by decide +kernel) rfl rfl (Nat.le_of_ble_eq_true rfl) dX9_barred_2 (fun H locs hP hD hS => ?_)
  have hP := va_P_eq (WM_g0 cI cZ cB a u 0) hP
  have hD := va_D_eq (WM_g0 cI cZ cB a u 0) hD
  refine lv_aload_n hx hb dX9_barred_5 rfl (lv_at hl 0 rfl) ?_
  refine lv_iload_n hx hb dX9_barred_6 rfl (lv_at hl 1 rfl) ?_
  refine sf_calli (va_runV (As := [.int b]) (rest := []) ⟨hx, hb, hml, hown, hts⟩ (m_isBridge l D cI cZ cB cO cJ a0 H.size a  (sg u 0 0) b ) (cwV 1 hts gX9_barred_X9_isBridge rfl rfl rfl (by decide +kernel) ⟨Nat.le_of_ble_eq_true rfl, Nat.le_of_ble_eq_true rfl⟩) (preV_full hE hZ hA hS hP hD (va_recv hE.1 hP (ci := 10) (q0 := 0) rfl rfl)) rfl rfl hl.1 rfl (lv_room (Nat.le_of_ble_eq_true rfl)) dX9_barred_7 ⟨Nat.le_of_ble_eq_true rfl, Nat.le_of_ble_eq_true rfl⟩) hP hD hS hA (fun r9 u9 H locs hw hP hD hS => ?_)
  subst hw
  have hP : va_P D vwCl (WM cI cZ cB a (sg u 0 0)) H := hP
  have hD : va_D A (WM cI cZ cB a (sg u 0 0)) := hD
  refine lv_if_eq (tgt := 24) hx hb dX9_barred_10 (by decide) (fun c1b => ?_) (fun c1b => ?_)
  · replace hf := hf.trans (if_pos c1b)
    refine lv_iconst (v := -1) hx hb dX9_barred_24 (by decide) ?_
    refine lv_goto (tgt := 43) hx hb dX9_barred_25 (by decide) ?_
    exact ss_iret () hx hb hr hlocks (by rw [hf]; exact hP) (by rw [hf]; exact hD) hS (by rw [hf]) (Nat.le_of_ble_eq_true rfl) (Nat.le_of_ble_eq_true rfl) dX9_barred_43
  · replace hf := hf.trans (if_neg c1b)
    refine lv_iload_n hx hb dX9_barred_13 rfl (lv_at hl 2 rfl) ?_
    refine lv_iconst (v := 0) hx hb dX9_barred_14 (by decide) ?_
    refine lv_sipush (v := 1440) hx hb dX9_barred_15 (by decide) ?_
    refine sf_calli (va_runS (As := [.int tm, .int 0, .int 1440]) (rest := []) ⟨hx, hb, hml, hown, hts⟩ (m_isIn l D cI cZ cB cO cJ a0 H.size a  (sg u 0 0) tm 0 1440 ) (cwS 3 hts gX9_barred_X9_isIn rfl rfl rfl (by decide +kernel) ⟨Nat.le_of_ble_eq_true rfl, Nat.le_of_ble_eq_true rfl⟩) (preS_full hE hZ hA hS hP hD) rfl rfl hl.1 rfl (lv_room (Nat.le_of_ble_eq_true rfl)) dX9_barred_18 ⟨Nat.le_of_ble_eq_true rfl, Nat.le_of_ble_eq_true rfl⟩) hP hD hS hA (fun r9 u9 H locs hw hP hD hS => ?_)
    subst hw
    have hP : va_P D vwCl (WM cI cZ cB a (sg u 0 0)) H := hP
    have hD : va_D A (WM cI cZ cB a (sg u 0 0)) := hD
    refine lv_if_ne (tgt := 28) hx hb dX9_barred_21 (by decide) (fun c1 => ?_) (fun c1 => ?_)
    · replace hf := hf.trans (if_neg c1)
      refine lv_aload_n hx hb dX9_barred_28 rfl (lv_at hl 0 rfl) ?_
      refine lv_iload_n hx hb dX9_barred_29 rfl (lv_at hl 1 rfl) ?_
      refine lv_iload_n hx hb dX9_barred_30 rfl (lv_at hl 2 rfl) ?_
      refine lv_iload_n hx hb dX9_barred_31 rfl (lv_at hl 2 rfl) ?_
      refine sf_calli (va_runV (As := [.int b, .int tm, .int tm]) (rest := []) ⟨hx, hb, hml, hown, hts⟩ (m_isBarred l D cI cZ cB cO cJ a0 H.size a _ _ _ _ _  (sg u 0 0) b tm tm ((MI_sg hI (by decide))) ((isBridge_ix (MI_sg hI (by decide)) c1b).mono hI.nB.2)) (cwV 3 hts gX9_barred_X9_isBarred rfl rfl rfl (by decide +kernel) ⟨Nat.le_of_ble_eq_true rfl, Nat.le_of_ble_eq_true rfl⟩) (preV_full hE hZ hA hS hP hD (va_recv hE.1 hP (ci := 10) (q0 := 0) rfl rfl)) rfl rfl hl.1 rfl (lv_room (Nat.le_of_ble_eq_true rfl)) dX9_barred_32 ⟨Nat.le_of_ble_eq_true rfl, Nat.le_of_ble_eq_true rfl⟩) hP hD hS hA (fun r9 u9 H locs hw hP hD hS => ?_)
      subst hw
      have hP : va_P D vwCl (WM cI cZ cB a (sg u 0 0)) H := hP
      have hD : va_D A (WM cI cZ cB a (sg u 0 0)) := hD
      refine lv_if_eq (tgt := 42) hx hb dX9_barred_35 (by decide) (fun c2 => ?_) (fun c2 => ?_)
      · replace hf := hf.trans (if_pos c2)
        refine lv_iconst (v := 0) hx hb dX9_barred_42 (by decide) ?_
        exact ss_iret () hx hb hr hlocks (by rw [hf]; exact hP) (by rw [hf]; exact hD) hS (by rw [hf]) (Nat.le_of_ble_eq_true rfl) (Nat.le_of_ble_eq_true rfl) dX9_barred_43
      · replace hf := hf.trans (if_neg c2)
        refine lv_iconst (v := 1) hx hb dX9_barred_38 (by decide) ?_
        refine lv_goto (tgt := 43) hx hb dX9_barred_39 (by decide) ?_
        exact ss_iret () hx hb hr hlocks (by rw [hf]; exact hP) (by rw [hf]; exact hD) hS (by rw [hf]) (Nat.le_of_ble_eq_true rfl) (Nat.le_of_ble_eq_true rfl) dX9_barred_43
    · replace hf := hf.trans (if_pos c1)
      refine lv_iconst (v := -1) hx hb dX9_barred_24 (by decide) ?_
      refine lv_goto (tgt := 43) hx hb dX9_barred_25 (by decide) ?_
      exact ss_iret () hx hb hr hlocks (by rw [hf]; exact hP) (by rw [hf]; exact hD) hS (by rw [hf]) (Nat.le_of_ble_eq_true rfl) (Nat.le_of_ble_eq_true rfl) dX9_barred_43
def f_told (u : RS) (sh : Int32) (what : Int32) : Int32 × RS := (if f_isShip u sh = 0 then (0, (f_throwsIf u 1).2) else (if what < 0 then (0, (f_throwsIf u 1).2) else (if what ≤ 3 then (if what = 0 then (((f_throwsIf u 0).2).2.2 32 sh.toNatClampNeg, (f_throwsIf u 0).2) else (if what = 1 then (if ((f_throwsIf u 0).2).2.2 32 sh.toNatClampNeg = 3 then (-1, (f_throwsIf u 0).2) else (if ((f_throwsIf u 0).2).2.2 32 sh.toNatClampNeg = 0 then (f_first ((f_throwsIf u 0).2) (((f_throwsIf u 0).2).2.2 39 sh.toNatClampNeg), (f_throwsIf u 0).2) else (((f_throwsIf u 0).2).2.2 33 sh.toNatClampNeg, (f_throwsIf u 0).2))) else (if what = 2 then (((f_throwsIf u 0).2).2.2 36 sh.toNatClampNeg, (f_throwsIf u 0).2) else (((f_throwsIf u 0).2).2.2 37 sh.toNatClampNeg, (f_throwsIf u 0).2)))) else (0, (f_throwsIf u 1).2))))
theorem f_told_s (u : RS) (sh : Int32) (what : Int32) : f_told u sh what = (if f_isShip u sh = 0 then (0, (f_throwsIf u 1).2) else (if what < 0 then (0, (f_throwsIf u 1).2) else (if what ≤ 3 then (if what = 0 then (((f_throwsIf u 0).2).2.2 32 sh.toNatClampNeg, (f_throwsIf u 0).2) else (if what = 1 then (if ((f_throwsIf u 0).2).2.2 32 sh.toNatClampNeg = 3 then (-1, (f_throwsIf u 0).2) else (if ((f_throwsIf u 0).2).2.2 32 sh.toNatClampNeg = 0 then (f_first ((f_throwsIf u 0).2) (((f_throwsIf u 0).2).2.2 39 sh.toNatClampNeg), (f_throwsIf u 0).2) else (((f_throwsIf u 0).2).2.2 33 sh.toNatClampNeg, (f_throwsIf u 0).2))) else (if what = 2 then (((f_throwsIf u 0).2).2.2 36 sh.toNatClampNeg, (f_throwsIf u 0).2) else (((f_throwsIf u 0).2).2.2 37 sh.toNatClampNeg, (f_throwsIf u 0).2)))) else (0, (f_throwsIf u 1).2)))) := rfl
theorem im_X9_told_X9 : ∀ w ∈ wsX90, w ∈ wsX9_told := fun _ h => List.mem_cons_of_mem _ (List.mem_append_right _ h)
set_option maxHeartbeats 400000 in
set_option maxRecDepth 100000 in
theorem m_told (l : Launch) (D : va_G) (cI cZ cB cO cJ : ClassId) (a0 sz : Nat) (a : Nat → Nat) (nB nS nK mi ln : Nat) (u : RS) (sh : Int32) (what : Int32) (hI : MI nB nS nK mi ln u) : Met l yX9_told wsX9_told ({ frames := 1, cells := 0, slots := 0, locals := 21 }) (Pcs D cI cZ cB cO cJ a0 [.ref (a 45), .int sh, .int what] (WM cI cZ cB a u) sz) (va_Qi (fun (r : Int32) (_ : Unit) => r = (f_told u sh what).1) (fun (_ : Unit) t => va_P D vwCl (WM cI cZ cB a (f_told u sh what).2) t.heap ∧ va_D (va_A (WM cI cZ cB a u) sz) (WM cI cZ cB a (f_told u sh what).2)) (va_A (WM cI cZ cB a u) sz)) 0 0 (va_A (WM cI cZ cB a u) sz) := by
  refine Met.ofW (cc := cX9_told) (maxL := 3) (ret := (some .int)) (by decide) rfl ?_
  intro p e s m args below meth c s₁ B hml hv
  obtain ⟨rfl, hsz, hP, hE, hD0, hZ⟩ := hv
  have hx := B.exec
  have hb := B.bytes
  have hr := B.returns
  have hts := atoms_spec (ws := wsX9_told) B.pre
  have hown : s.vm.findClass RX9 = some m.cls := findClass_of_methodNamed B.named
  have hlocks := B.notSynchronized
  subst hsz
  have hD := hD0.self (sz := s.heap.size)
  generalize hAe : va_A (WM cI cZ cB a u) s.heap.size = A at hD hZ ⊢
  have hA : ∀ q : Nat, s.heap.size ≤ q → A q := fun q h => by rw [← hAe]; exact Or.inr h
  clear hAe
  have hS : va_S A s.heap s.heap [] := va_S.rf
  have hP : va_P D vwCl (WM cI cZ cB a u) s.heap := hP
  have hl := lv_entry ([.ref (a 45), .int sh, .int what]) (n := 3) (Nat.le_of_ble_eq_true rfl)
  rw [lg_entry_eq]
  generalize (lg_sl ([.ref (a 45), .int sh, .int what]) ++ List.replicate (3 - (lg_sl ([.ref (a 45), .int sh, .int what])).length) Slot.unset).toArray = ls at hl ⊢
  have hl : lv_has ls 3 [(0, .ref (a 45)), (1, .int sh), (2, .int what)] := hl
  have hf := f_told_s u sh what
  refine lv_aload_n hx hb dX9_told_0 rfl (lv_at hl 0 rfl) ?_
  refine lv_aload_n hx hb dX9_told_1 rfl (lv_at hl 0 rfl) ?_
  refine lv_iload_n hx hb dX9_told_2 rfl (lv_at hl 1 rfl) ?_
  refine sf_calli (va_runV (As := [.int sh]) (rest := [.ref (a 45)]) ⟨hx, hb, hml, hown, hts⟩ (m_isShip l D cI cZ cB cO cJ a0 s.heap.size a  u sh ) (cwV 1 hts gX9_told_X9_isShip rfl rfl rfl (by decide +kernel) ⟨Nat.le_of_ble_eq_true rfl, Nat.le_of_ble_eq_true rfl⟩) (preV_full hE hZ hA hS hP hD (va_recv hE.1 hP (ci := 10) (q0 := 0) rfl rfl)) rfl rfl hl.1 rfl (lv_room (Nat.le_of_ble_eq_true rfl)) dX9_told_3 ⟨Nat.le_of_ble_eq_true rfl, Nat.le_of_ble_eq_true rfl⟩) hP hD hS hA (fun r9 u9 H locs hw hP hD hS => ?_)
  subst hw
  have hP : va_P D vwCl (WM cI cZ cB a u) H := hP
  have hD : va_D A (WM cI cZ cB a u) := hD
  refine lv_if_eq (tgt := 18) hx hb dX9_told_6 (by decide) (fun cs => ?_) (fun cs => ?_)
  · replace hf := hf.trans (if_pos cs)
    refine lv_iconst (v := 1) hx hb dX9_told_18 (by decide) ?_
    refine lv_goto (tgt := 23) hx hb dX9_told_19 (by decide) ?_
    refine sf_calli (va_runV (As := [.int 1]) (rest := []) ⟨hx, hb, hml, hown, hts⟩ (m_throwsIf l D cI cZ cB cO cJ a0 H.size a  u 1 (by first | exact Or.inl rfl | exact Or.inr rfl)) (cwV 1 hts gX9_told_X9_throwsIf rfl rfl rfl (by decide +kernel) ⟨Nat.le_of_ble_eq_true rfl, Nat.le_of_ble_eq_true rfl⟩) (preV_full hE hZ hA hS hP hD (va_recv hE.1 hP (ci := 10) (q0 := 0) rfl rfl)) rfl rfl hl.1 rfl (lv_room (Nat.le_of_ble_eq_true rfl)) dX9_told_23 ⟨Nat.le_of_ble_eq_true rfl, Nat.le_of_ble_eq_true rfl⟩) hP hD hS hA (fun r9 u9 H locs hw hP hD hS => ?_)
    subst hw
    have hP : va_P D vwCl (WM cI cZ cB a ((f_throwsIf u 1).2)) H := hP
    have hD : va_D A (WM cI cZ cB a ((f_throwsIf u 1).2)) := hD
    refine lv_if_eq (tgt := 31) hx hb dX9_told_26 (by decide) (fun c9 => absurd c9 (by rw [f_throwsIf_s]; exact (by decide : ¬ (1 : Int32) = 0))) (fun _ => ?_)
    refine lv_iconst (v := 0) hx hb dX9_told_29 (by decide) ?_
    exact ss_iret () hx hb hr hlocks (by rw [hf]; exact hP) (by rw [hf]; exact hD) hS (by rw [hf]) (Nat.le_of_ble_eq_true rfl) (Nat.le_of_ble_eq_true rfl) dX9_told_30
  · replace hf := hf.trans (if_neg cs)
    refine lv_iload_n hx hb dX9_told_9 rfl (lv_at hl 2 rfl) ?_
    refine lv_if_lt (tgt := 18) hx hb dX9_told_10 (by decide) (fun c0 => ?_) (fun c0 => ?_)
    · replace hf := hf.trans (if_pos c0)
      refine lv_iconst (v := 1) hx hb dX9_told_18 (by decide) ?_
      refine lv_goto (tgt := 23) hx hb dX9_told_19 (by decide) ?_
      refine sf_calli (va_runV (As := [.int 1]) (rest := []) ⟨hx, hb, hml, hown, hts⟩ (m_throwsIf l D cI cZ cB cO cJ a0 H.size a  u 1 (by first | exact Or.inl rfl | exact Or.inr rfl)) (cwV 1 hts gX9_told_X9_throwsIf rfl rfl rfl (by decide +kernel) ⟨Nat.le_of_ble_eq_true rfl, Nat.le_of_ble_eq_true rfl⟩) (preV_full hE hZ hA hS hP hD (va_recv hE.1 hP (ci := 10) (q0 := 0) rfl rfl)) rfl rfl hl.1 rfl (lv_room (Nat.le_of_ble_eq_true rfl)) dX9_told_23 ⟨Nat.le_of_ble_eq_true rfl, Nat.le_of_ble_eq_true rfl⟩) hP hD hS hA (fun r9 u9 H locs hw hP hD hS => ?_)
      subst hw
      have hP : va_P D vwCl (WM cI cZ cB a ((f_throwsIf u 1).2)) H := hP
      have hD : va_D A (WM cI cZ cB a ((f_throwsIf u 1).2)) := hD
      refine lv_if_eq (tgt := 31) hx hb dX9_told_26 (by decide) (fun c9 => absurd c9 (by rw [f_throwsIf_s]; exact (by decide : ¬ (1 : Int32) = 0))) (fun _ => ?_)
      refine lv_iconst (v := 0) hx hb dX9_told_29 (by decide) ?_
      exact ss_iret () hx hb hr hlocks (by rw [hf]; exact hP) (by rw [hf]; exact hD) hS (by rw [hf]) (Nat.le_of_ble_eq_true rfl) (Nat.le_of_ble_eq_true rfl) dX9_told_30
    · replace hf := hf.trans (if_neg c0)
      refine lv_iload_n hx hb dX9_told_13 rfl (lv_at hl 2 rfl) ?_
      refine lv_iconst (v := 3) hx hb dX9_told_14 (by decide) ?_
      refine lv_icmp_le (tgt := 22) hx hb dX9_told_15 (by decide) (fun c3 => ?_) (fun c3 => ?_)
      · replace hf := hf.trans (if_pos c3)
        refine lv_iconst (v := 0) hx hb dX9_told_22 (by decide) ?_
        refine sf_calli (va_runV (As := [.int 0]) (rest := []) ⟨hx, hb, hml, hown, hts⟩ (m_throwsIf l D cI cZ cB cO cJ a0 H.size a  u 0 (by first | exact Or.inl rfl | exact Or.inr rfl)) (cwV 1 hts gX9_told_X9_throwsIf rfl rfl rfl (by decide +kernel) ⟨Nat.le_of_ble_eq_true rfl, Nat.le_of_ble_eq_true rfl⟩) (preV_full hE hZ hA hS hP hD (va_recv hE.1 hP (ci := 10) (q0 := 0) rfl rfl)) rfl rfl hl.1 rfl (lv_room (Nat.le_of_ble_eq_true rfl)) dX9_told_23 ⟨Nat.le_of_ble_eq_true rfl, Nat.le_of_ble_eq_true rfl⟩) hP hD hS hA (fun r9 u9 H locs hw hP hD hS => ?_)
        subst hw
        have hP : va_P D vwCl (WM cI cZ cB a ((f_throwsIf u 0).2)) H := hP
        have hD : va_D A (WM cI cZ cB a ((f_throwsIf u 0).2)) := hD
        refine lv_if_eq (tgt := 31) hx hb dX9_told_26 (by decide) (fun _ => ?_) (fun c9 => absurd (by rw [f_throwsIf_s, if_pos rfl]) c9)
        have i1 := (isShip_ix hI cs).inn (N := 40) hI.nS.2 (by omega)
        refine lv_iload_n hx hb dX9_told_31 rfl (lv_at hl 2 rfl) ?_
        refine lv_if_ne (tgt := 42) hx hb dX9_told_32 (by decide) (fun c1 => ?_) (fun c1 => ?_)
        · replace hf := hf.trans (if_neg c1)
          refine lv_iload_n hx hb dX9_told_42 rfl (lv_at hl 2 rfl) ?_
          refine lv_iconst (v := 1) hx hb dX9_told_43 (by decide) ?_
          refine lv_icmp_ne (tgt := 90) hx hb dX9_told_44 (by decide) (fun c2 => ?_) (fun c2 => ?_)
          · replace hf := hf.trans (if_neg c2)
            refine lv_iload_n hx hb dX9_told_90 rfl (lv_at hl 2 rfl) ?_
            refine lv_iconst (v := 2) hx hb dX9_told_91 (by decide) ?_
            refine lv_icmp_ne (tgt := 104) hx hb dX9_told_92 (by decide) (fun c3 => ?_) (fun c3 => ?_)
            · replace hf := hf.trans (if_neg c3)
              refine lv_aload_n hx hb dX9_told_104 rfl (lv_at hl 0 rfl) ?_
              refine va_get (D := D) (ci := 10) (v := .ref (a 37)) (C := RX9) (T := TX9) (N := 45) hx hb hts im_X9_told_X9 hown hE.1 hP 0 rfl rfl 37 (by decide) (hts (.fieldLink RX9 85 "RiverBridgesModel" "done" "[I") (by decide +kernel)) (fun _ h9 => h9) rfl dX9_told_105 ?_
              refine lv_iload_n hx hb dX9_told_108 rfl (lv_at hl 1 rfl) ?_
              refine lx_iald (v := ((f_throwsIf u 0).2).2.2 37 sh.toNatClampNeg) hx hb hE.1 hP 24 0 rfl rfl (by assumption) (rfl) dX9_told_109 ?_
              exact ss_iret () hx hb hr hlocks (by rw [hf]; exact hP) (by rw [hf]; exact hD) hS (by rw [hf]) (Nat.le_of_ble_eq_true rfl) (Nat.le_of_ble_eq_true rfl) dX9_told_110
            · replace hf := hf.trans (if_pos c3)
              refine lv_aload_n hx hb dX9_told_95 rfl (lv_at hl 0 rfl) ?_
              refine va_get (D := D) (ci := 10) (v := .ref (a 36)) (C := RX9) (T := TX9) (N := 45) hx hb hts im_X9_told_X9 hown hE.1 hP 0 rfl rfl 36 (by decide) (hts (.fieldLink RX9 82 "RiverBridgesModel" "waitedAt" "[I") (by decide +kernel)) (fun _ h9 => h9) rfl dX9_told_96 ?_
              refine lv_iload_n hx hb dX9_told_99 rfl (lv_at hl 1 rfl) ?_
              refine lx_iald (v := ((f_throwsIf u 0).2).2.2 36 sh.toNatClampNeg) hx hb hE.1 hP 23 0 rfl rfl (by assumption) (rfl) dX9_told_100 ?_
              refine lv_goto (tgt := 110) hx hb dX9_told_101 (by decide) ?_
              exact ss_iret () hx hb hr hlocks (by rw [hf]; exact hP) (by rw [hf]; exact hD) hS (by rw [hf]) (Nat.le_of_ble_eq_true rfl) (Nat.le_of_ble_eq_true rfl) dX9_told_110
          · replace hf := hf.trans (if_pos c2)
            refine lv_aload_n hx hb dX9_told_47 rfl (lv_at hl 0 rfl) ?_
            refine va_get (D := D) (ci := 10) (v := .ref (a 32)) (C := RX9) (T := TX9) (N := 45) hx hb hts im_X9_told_X9 hown hE.1 hP 0 rfl rfl 32 (by decide) (hts (.fieldLink RX9 70 "RiverBridgesModel" "ship" "[I") (by decide +kernel)) (fun _ h9 => h9) rfl dX9_told_48 ?_
            refine lv_iload_n hx hb dX9_told_51 rfl (lv_at hl 1 rfl) ?_
            refine lx_iald (v := ((f_throwsIf u 0).2).2.2 32 sh.toNatClampNeg) hx hb hE.1 hP 19 0 rfl rfl (by assumption) (rfl) dX9_told_52 ?_
            refine lv_iconst (v := 3) hx hb dX9_told_53 (by decide) ?_
            refine lv_icmp_ne (tgt := 61) hx hb dX9_told_54 (by decide) (fun c4 => ?_) (fun c4 => ?_)
            · replace hf := hf.trans (if_neg c4)
              refine lv_aload_n hx hb dX9_told_61 rfl (lv_at hl 0 rfl) ?_
              refine va_get (D := D) (ci := 10) (v := .ref (a 32)) (C := RX9) (T := TX9) (N := 45) hx hb hts im_X9_told_X9 hown hE.1 hP 0 rfl rfl 32 (by decide) (hts (.fieldLink RX9 70 "RiverBridgesModel" "ship" "[I") (by decide +kernel)) (fun _ h9 => h9) rfl dX9_told_62 ?_
              refine lv_iload_n hx hb dX9_told_65 rfl (lv_at hl 1 rfl) ?_
              refine lx_iald (v := ((f_throwsIf u 0).2).2.2 32 sh.toNatClampNeg) hx hb hE.1 hP 19 0 rfl rfl (by assumption) (rfl) dX9_told_66 ?_
              refine lv_if_ne (tgt := 83) hx hb dX9_told_67 (by decide) (fun c5 => ?_) (fun c5 => ?_)
              · replace hf := hf.trans (if_neg c5)
                refine lv_aload_n hx hb dX9_told_83 rfl (lv_at hl 0 rfl) ?_
                refine va_get (D := D) (ci := 10) (v := .ref (a 33)) (C := RX9) (T := TX9) (N := 45) hx hb hts im_X9_told_X9 hown hE.1 hP 0 rfl rfl 33 (by decide) (hts (.fieldLink RX9 73 "RiverBridgesModel" "where" "[I") (by decide +kernel)) (fun _ h9 => h9) rfl dX9_told_84 ?_
                refine lv_iload_n hx hb dX9_told_87 rfl (lv_at hl 1 rfl) ?_
                refine lx_iald (v := ((f_throwsIf u 0).2).2.2 33 sh.toNatClampNeg) hx hb hE.1 hP 20 0 rfl rfl (by assumption) (rfl) dX9_told_88 ?_
                exact ss_iret () hx hb hr hlocks (by rw [hf]; exact hP) (by rw [hf]; exact hD) hS (by rw [hf]) (Nat.le_of_ble_eq_true rfl) (Nat.le_of_ble_eq_true rfl) dX9_told_89
              · replace hf := hf.trans (if_pos c5)
                refine lv_aload_n hx hb dX9_told_70 rfl (lv_at hl 0 rfl) ?_
                refine lv_aload_n hx hb dX9_told_71 rfl (lv_at hl 0 rfl) ?_
                refine va_get (D := D) (ci := 10) (v := .ref (a 39)) (C := RX9) (T := TX9) (N := 45) hx hb hts im_X9_told_X9 hown hE.1 hP 0 rfl rfl 39 (by decide) (hts (.fieldLink RX9 91 "RiverBridgesModel" "isUp" "[Z") (by decide +kernel)) (fun _ h9 => h9) rfl dX9_told_72 ?_
                refine lv_iload_n hx hb dX9_told_75 rfl (lv_at hl 1 rfl) ?_
                refine lx_zald (v := ((f_throwsIf u 0).2).2.2 39 sh.toNatClampNeg) hx hb hE.1 hP 26 1 rfl rfl (by assumption) (rfl) dX9_told_76 ?_
                refine sf_calli (va_runV (As := [.int (((f_throwsIf u 0).2).2.2 39 sh.toNatClampNeg)]) (rest := []) ⟨hx, hb, hml, hown, hts⟩ (m_first l D cI cZ cB cO cJ a0 H.size a  ((f_throwsIf u 0).2) (((f_throwsIf u 0).2).2.2 39 sh.toNatClampNeg) ) (cwV 1 hts gX9_told_X9_first rfl rfl rfl (by decide +kernel) ⟨Nat.le_of_ble_eq_true rfl, Nat.le_of_ble_eq_true rfl⟩) (preV_full hE hZ hA hS hP hD (va_recv hE.1 hP (ci := 10) (q0 := 0) rfl rfl)) rfl rfl hl.1 rfl (lv_room (Nat.le_of_ble_eq_true rfl)) dX9_told_77 ⟨Nat.le_of_ble_eq_true rfl, Nat.le_of_ble_eq_true rfl⟩) hP hD hS hA (fun r9 u9 H locs hw hP hD hS => ?_)
                subst hw
                have hP : va_P D vwCl (WM cI cZ cB a ((f_throwsIf u 0).2)) H := hP
                have hD : va_D A (WM cI cZ cB a ((f_throwsIf u 0).2)) := hD
                refine lv_goto (tgt := 89) hx hb dX9_told_80 (by decide) ?_
                exact ss_iret () hx hb hr hlocks (by rw [hf]; exact hP) (by rw [hf]; exact hD) hS (by rw [hf]) (Nat.le_of_ble_eq_true rfl) (Nat.le_of_ble_eq_true rfl) dX9_told_89
            · replace hf := hf.trans (if_pos c4)
              refine lv_iconst (v := -1) hx hb dX9_told_57 (by decide) ?_
              refine lv_goto (tgt := 89) hx hb dX9_told_58 (by decide) ?_
              exact ss_iret () hx hb hr hlocks (by rw [hf]; exact hP) (by rw [hf]; exact hD) hS (by rw [hf]) (Nat.le_of_ble_eq_true rfl) (Nat.le_of_ble_eq_true rfl) dX9_told_89
        · replace hf := hf.trans (if_pos c1)
          refine lv_aload_n hx hb dX9_told_35 rfl (lv_at hl 0 rfl) ?_
          refine va_get (D := D) (ci := 10) (v := .ref (a 32)) (C := RX9) (T := TX9) (N := 45) hx hb hts im_X9_told_X9 hown hE.1 hP 0 rfl rfl 32 (by decide) (hts (.fieldLink RX9 70 "RiverBridgesModel" "ship" "[I") (by decide +kernel)) (fun _ h9 => h9) rfl dX9_told_36 ?_
          refine lv_iload_n hx hb dX9_told_39 rfl (lv_at hl 1 rfl) ?_
          refine lx_iald (v := ((f_throwsIf u 0).2).2.2 32 sh.toNatClampNeg) hx hb hE.1 hP 19 0 rfl rfl (by assumption) (rfl) dX9_told_40 ?_
          exact ss_iret () hx hb hr hlocks (by rw [hf]; exact hP) (by rw [hf]; exact hD) hS (by rw [hf]) (Nat.le_of_ble_eq_true rfl) (Nat.le_of_ble_eq_true rfl) dX9_told_41
      · replace hf := hf.trans (if_neg c3)
        refine lv_iconst (v := 1) hx hb dX9_told_18 (by decide) ?_
        refine lv_goto (tgt := 23) hx hb dX9_told_19 (by decide) ?_
        refine sf_calli (va_runV (As := [.int 1]) (rest := []) ⟨hx, hb, hml, hown, hts⟩ (m_throwsIf l D cI cZ cB cO cJ a0 H.size a  u 1 (by first | exact Or.inl rfl | exact Or.inr rfl)) (cwV 1 hts gX9_told_X9_throwsIf rfl rfl rfl (by decide +kernel) ⟨Nat.le_of_ble_eq_true rfl, Nat.le_of_ble_eq_true rfl⟩) (preV_full hE hZ hA hS hP hD (va_recv hE.1 hP (ci := 10) (q0 := 0) rfl rfl)) rfl rfl hl.1 rfl (lv_room (Nat.le_of_ble_eq_true rfl)) dX9_told_23 ⟨Nat.le_of_ble_eq_true rfl, Nat.le_of_ble_eq_true rfl⟩) hP hD hS hA (fun r9 u9 H locs hw hP hD hS => ?_)
        subst hw
        have hP : va_P D vwCl (WM cI cZ cB a ((f_throwsIf u 1).2)) H := hP
        have hD : va_D A (WM cI cZ cB a ((f_throwsIf u 1).2)) := hD
        refine lv_if_eq (tgt := 31) hx hb dX9_told_26 (by decide) (fun c9 => absurd c9 (by rw [f_throwsIf_s]; exact (by decide : ¬ (1 : Int32) = 0))) (fun _ => ?_)
        refine lv_iconst (v := 0) hx hb dX9_told_29 (by decide) ?_
        exact ss_iret () hx hb hr hlocks (by rw [hf]; exact hP) (by rw [hf]; exact hD) hS (by rw [hf]) (Nat.le_of_ble_eq_true rfl) (Nat.le_of_ble_eq_true rfl) dX9_told_30
def f_four (u : RS) (v : Int32) : RS := (sg (sa (sg (sa (sg (sa (sg (sa u 1 ((u.1 2).toNatClampNeg) (vp_nar .byte ((v >>> (24 &&& 31)).toInt8.toInt32))) 2 ((u.1 2) + 1)) 1 (((u.1 2) + 1).toNatClampNeg) (vp_nar .byte ((v >>> (16 &&& 31)).toInt8.toInt32))) 2 (((u.1 2) + 1) + 1)) 1 ((((u.1 2) + 1) + 1).toNatClampNeg) (vp_nar .byte ((v >>> (8 &&& 31)).toInt8.toInt32))) 2 ((((u.1 2) + 1) + 1) + 1)) 1 (((((u.1 2) + 1) + 1) + 1).toNatClampNeg) (vp_nar .byte ((v >>> (0 &&& 31)).toInt8.toInt32))) 2 (((((u.1 2) + 1) + 1) + 1) + 1))
theorem f_four_s (u : RS) (v : Int32) : f_four u v = (sg (sa (sg (sa (sg (sa (sg (sa u 1 ((u.1 2).toNatClampNeg) (vp_nar .byte ((v >>> (24 &&& 31)).toInt8.toInt32))) 2 ((u.1 2) + 1)) 1 (((u.1 2) + 1).toNatClampNeg) (vp_nar .byte ((v >>> (16 &&& 31)).toInt8.toInt32))) 2 (((u.1 2) + 1) + 1)) 1 ((((u.1 2) + 1) + 1).toNatClampNeg) (vp_nar .byte ((v >>> (8 &&& 31)).toInt8.toInt32))) 2 ((((u.1 2) + 1) + 1) + 1)) 1 (((((u.1 2) + 1) + 1) + 1).toNatClampNeg) (vp_nar .byte ((v >>> (0 &&& 31)).toInt8.toInt32))) 2 (((((u.1 2) + 1) + 1) + 1) + 1)) := rfl
theorem im_X9_four_X9 : ∀ w ∈ wsX90, w ∈ wsX9_four := fun _ h => List.mem_cons_of_mem _ (List.mem_append_right _ h)
set_option maxHeartbeats 400000 in
set_option maxRecDepth 100000 in
theorem m_four (l : Launch) (D : va_G) (cI cZ cB cO cJ : ClassId) (a0 sz : Nat) (a : Nat → Nat) (nB nS nK mi ln : Nat) (u : RS) (v : Int32) (hI : MI nB nS nK mi ln u) (h4 : ln + 4 ≤ 440) : Met l yX9_four wsX9_four ({ frames := 0, cells := 0, slots := 0, locals := 0 }) (Pcs D cI cZ cB cO cJ a0 [.ref (a 45), .int v] (WM cI cZ cB a u) sz) (va_Qv (fun (_ : Unit) => True) (fun (_ : Unit) t => va_P D vwCl (WM cI cZ cB a (f_four u v)) t.heap ∧ va_D (va_A (WM cI cZ cB a u) sz) (WM cI cZ cB a (f_four u v))) (va_A (WM cI cZ cB a u) sz)) 0 0 (va_A (WM cI cZ cB a u) sz) := by
  refine Met.ofW (cc := cX9_four) (maxL := 3) (ret := none) (by decide) rfl ?_
  intro p e s m args below meth c s₁ B hml hv
  obtain ⟨rfl, hsz, hP, hE, hD0, hZ⟩ := hv
  have hx := B.exec
  have hb := B.bytes
  have hr := B.returns
  have hts := atoms_spec (ws := wsX9_four) B.pre
  have hown : s.vm.findClass RX9 = some m.cls := findClass_of_methodNamed B.named
  have hlocks := B.notSynchronized
  subst hsz
  have hD := hD0.self (sz := s.heap.size)
  generalize hAe : va_A (WM cI cZ cB a u) s.heap.size = A at hD hZ ⊢
  have hA : ∀ q : Nat, s.heap.size ≤ q → A q := fun q h => by rw [← hAe]; exact Or.inr h
  clear hAe
  have hS : va_S A s.heap s.heap [] := va_S.rf
  have hP : va_P D vwCl (WM cI cZ cB a u) s.heap := hP
  have hl := lv_entry ([.ref (a 45), .int v]) (n := 3) (Nat.le_of_ble_eq_true rfl)
  rw [lg_entry_eq]
  generalize (lg_sl ([.ref (a 45), .int v]) ++ List.replicate (3 - (lg_sl ([.ref (a 45), .int v])).length) Slot.unset).toArray = ls at hl ⊢
  have hl : lv_has ls 3 [(0, .ref (a 45)), (1, .int v)] := hl
  have hf := f_four_s u v
  refine lv_bipush (v := 24) hx hb dX9_four_0 (by decide) ?_
  refine lv_istore_n (lv' := [(2, .int 24), (0, .ref (a 45)), (1, .int v)]) hx hb dX9_four_2 rfl hl (by decide) rfl (fun ls hl => ?_)
  refine lv_iload_n hx hb dX9_four_3 rfl (lv_at hl 0 rfl) ?_
  refine lv_if_lt (tgt := 36) hx hb dX9_four_4 (by decide) (fun c9 => absurd c9 (by decide)) (fun _ => ?_)
  refine lv_aload_n hx hb dX9_four_7 rfl (lv_at hl 1 rfl) ?_
  refine va_get (D := D) (ci := 10) (v := .ref (a 1)) (C := RX9) (T := TX9) (N := 45) hx hb hts im_X9_four_X9 hown hE.1 hP 0 rfl rfl 1 (by decide) (hts (.fieldLink RX9 7 "RiverBridgesModel" "tape" "[B") (by decide +kernel)) (fun _ h9 => h9) rfl dX9_four_8 ?_
  refine lv_aload_n hx hb dX9_four_11 rfl (lv_at hl 1 rfl) ?_
  refine va_get (D := D) (ci := 10) (v := .int (u.1 2)) (C := RX9) (T := TX9) (N := 45) hx hb hts im_X9_four_X9 hown hE.1 hP 0 rfl rfl 2 (by decide) (hts (.fieldLink RX9 106 "RiverBridgesModel" "length" "I") (by decide +kernel)) (fun _ h9 => h9) rfl dX9_four_12 ?_
  refine lv_iload_n hx hb dX9_four_15 rfl (lv_at hl 2 rfl) ?_
  refine lv_iload_n hx hb dX9_four_16 rfl (lv_at hl 0 rfl) ?_
  refine lv_ishr hx hb dX9_four_17 ?_
  refine lv_i2b (v := (v >>> (24 &&& 31)).toInt8.toInt32) hx hb dX9_four_18 rfl ?_
  refine lx_bast (g := upd (u.2.2 1) ((u.1 2).toNatClampNeg) (vp_nar .byte ((v >>> (24 &&& 31)).toInt8.toInt32))) hx hb hE.1 hP hD hS 1 2 rfl rfl (by simp only [hI.ln.1, nI_1]; exact vp_in_nI (by omega) (by omega)) (rfl) dX9_four_19 (fun H locs hP hD hS => ?_)
  have hP := va_P_eq (WM_a1 cI cZ cB a u ((u.1 2).toNatClampNeg) (vp_nar .byte ((v >>> (24 &&& 31)).toInt8.toInt32))) hP
  have hD := va_D_eq (WM_a1 cI cZ cB a u ((u.1 2).toNatClampNeg) (vp_nar .byte ((v >>> (24 &&& 31)).toInt8.toInt32))) hD
  refine lv_aload_n hx hb dX9_four_20 rfl (lv_at hl 1 rfl) ?_
  refine lv_dup hx hb dX9_four_21 rfl ?_
  refine va_get (D := D) (ci := 10) (v := .int (u.1 2)) (C := RX9) (T := TX9) (N := 45) hx hb hts im_X9_four_X9 hown hE.1 hP 0 rfl rfl 2 (by decide) (hts (.fieldLink RX9 106 "RiverBridgesModel" "length" "I") (by decide +kernel)) (fun _ h9 => h9) rfl dX9_four_22 ?_
  refine lv_iconst (v := 1) hx hb dX9_four_25 (by decide) ?_
  refine lx_iadd (v := (u.1 2) + 1) hx hb (rfl) dX9_four_26 ?_
  refine va_put (D := D) (ci := 10) (v := .int ((u.1 2) + 1)) (ty := .int) (C := RX9) (T := TX9) (N := 45) hx hb hts im_X9_four_X9 tyX9 tyX9_ok nmX9 hown hE.1 hP hD hS 0 rfl rfl 2 (by decide) (hts (.fieldLink RX9 106 "RiverBridgesModel" "length" "I") (by decide +kernel)) (fun _ h9 => h9) rfl (by decide +kernel) rfl rfl (Nat.le_of_ble_eq_true rfl) dX9_four_27 (fun H locs hP hD hS => ?_)
  have hP := va_P_eq (WM_g2 cI cZ cB a (sa u 1 ((u.1 2).toNatClampNeg) (vp_nar .byte ((v >>> (24 &&& 31)).toInt8.toInt32))) ((u.1 2) + 1)) hP
  have hD := va_D_eq (WM_g2 cI cZ cB a (sa u 1 ((u.1 2).toNatClampNeg) (vp_nar .byte ((v >>> (24 &&& 31)).toInt8.toInt32))) ((u.1 2) + 1)) hD
  refine lv_iinc (v := 16) (lv' := [(2, .int 16), (0, .ref (a 45)), (1, .int v)]) hx hb dX9_four_30 hl (k := 0) rfl (by decide) (by decide) rfl (fun ls hl => ?_)
  refine lv_goto (tgt := 3) hx hb dX9_four_33 (by decide) ?_
  refine lv_iload_n hx hb dX9_four_3 rfl (lv_at hl 0 rfl) ?_
  refine lv_if_lt (tgt := 36) hx hb dX9_four_4 (by decide) (fun c9 => absurd c9 (by decide)) (fun _ => ?_)
  refine lv_aload_n hx hb dX9_four_7 rfl (lv_at hl 1 rfl) ?_
  refine va_get (D := D) (ci := 10) (v := .ref (a 1)) (C := RX9) (T := TX9) (N := 45) hx hb hts im_X9_four_X9 hown hE.1 hP 0 rfl rfl 1 (by decide) (hts (.fieldLink RX9 7 "RiverBridgesModel" "tape" "[B") (by decide +kernel)) (fun _ h9 => h9) rfl dX9_four_8 ?_
  refine lv_aload_n hx hb dX9_four_11 rfl (lv_at hl 1 rfl) ?_
  refine va_get (D := D) (ci := 10) (v := .int ((u.1 2) + 1)) (C := RX9) (T := TX9) (N := 45) hx hb hts im_X9_four_X9 hown hE.1 hP 0 rfl rfl 2 (by decide) (hts (.fieldLink RX9 106 "RiverBridgesModel" "length" "I") (by decide +kernel)) (fun _ h9 => h9) rfl dX9_four_12 ?_
  refine lv_iload_n hx hb dX9_four_15 rfl (lv_at hl 2 rfl) ?_
  refine lv_iload_n hx hb dX9_four_16 rfl (lv_at hl 0 rfl) ?_
  refine lv_ishr hx hb dX9_four_17 ?_
  refine lv_i2b (v := (v >>> (16 &&& 31)).toInt8.toInt32) hx hb dX9_four_18 rfl ?_
  refine lx_bast (g := upd (upd (u.2.2 1) ((u.1 2).toNatClampNeg) (vp_nar .byte ((v >>> (24 &&& 31)).toInt8.toInt32))) (((u.1 2) + 1).toNatClampNeg) (vp_nar .byte ((v >>> (16 &&& 31)).toInt8.toInt32))) hx hb hE.1 hP hD hS 1 2 rfl rfl (by simp only [hI.ln.1, nI_1]; exact vp_in_nI (by omega) (by omega)) (rfl) dX9_four_19 (fun H locs hP hD hS => ?_)
  have hP := va_P_eq (WM_a1 cI cZ cB a (sg (sa u 1 ((u.1 2).toNatClampNeg) (vp_nar .byte ((v >>> (24 &&& 31)).toInt8.toInt32))) 2 ((u.1 2) + 1)) (((u.1 2) + 1).toNatClampNeg) (vp_nar .byte ((v >>> (16 &&& 31)).toInt8.toInt32))) hP
  have hD := va_D_eq (WM_a1 cI cZ cB a (sg (sa u 1 ((u.1 2).toNatClampNeg) (vp_nar .byte ((v >>> (24 &&& 31)).toInt8.toInt32))) 2 ((u.1 2) + 1)) (((u.1 2) + 1).toNatClampNeg) (vp_nar .byte ((v >>> (16 &&& 31)).toInt8.toInt32))) hD
  refine lv_aload_n hx hb dX9_four_20 rfl (lv_at hl 1 rfl) ?_
  refine lv_dup hx hb dX9_four_21 rfl ?_
  refine va_get (D := D) (ci := 10) (v := .int ((u.1 2) + 1)) (C := RX9) (T := TX9) (N := 45) hx hb hts im_X9_four_X9 hown hE.1 hP 0 rfl rfl 2 (by decide) (hts (.fieldLink RX9 106 "RiverBridgesModel" "length" "I") (by decide +kernel)) (fun _ h9 => h9) rfl dX9_four_22 ?_
  refine lv_iconst (v := 1) hx hb dX9_four_25 (by decide) ?_
  refine lx_iadd (v := ((u.1 2) + 1) + 1) hx hb (rfl) dX9_four_26 ?_
  refine va_put (D := D) (ci := 10) (v := .int (((u.1 2) + 1) + 1)) (ty := .int) (C := RX9) (T := TX9) (N := 45) hx hb hts im_X9_four_X9 tyX9 tyX9_ok nmX9 hown hE.1 hP hD hS 0 rfl rfl 2 (by decide) (hts (.fieldLink RX9 106 "RiverBridgesModel" "length" "I") (by decide +kernel)) (fun _ h9 => h9) rfl (by decide +kernel) rfl rfl (Nat.le_of_ble_eq_true rfl) dX9_four_27 (fun H locs hP hD hS => ?_)
  have hP := va_P_eq (WM_g2 cI cZ cB a (sa (sg (sa u 1 ((u.1 2).toNatClampNeg) (vp_nar .byte ((v >>> (24 &&& 31)).toInt8.toInt32))) 2 ((u.1 2) + 1)) 1 (((u.1 2) + 1).toNatClampNeg) (vp_nar .byte ((v >>> (16 &&& 31)).toInt8.toInt32))) (((u.1 2) + 1) + 1)) hP
  have hD := va_D_eq (WM_g2 cI cZ cB a (sa (sg (sa u 1 ((u.1 2).toNatClampNeg) (vp_nar .byte ((v >>> (24 &&& 31)).toInt8.toInt32))) 2 ((u.1 2) + 1)) 1 (((u.1 2) + 1).toNatClampNeg) (vp_nar .byte ((v >>> (16 &&& 31)).toInt8.toInt32))) (((u.1 2) + 1) + 1)) hD
  refine lv_iinc (v := 8) (lv' := [(2, .int 8), (0, .ref (a 45)), (1, .int v)]) hx hb dX9_four_30 hl (k := 0) rfl (by decide) (by decide) rfl (fun ls hl => ?_)
  refine lv_goto (tgt := 3) hx hb dX9_four_33 (by decide) ?_
  refine lv_iload_n hx hb dX9_four_3 rfl (lv_at hl 0 rfl) ?_
  refine lv_if_lt (tgt := 36) hx hb dX9_four_4 (by decide) (fun c9 => absurd c9 (by decide)) (fun _ => ?_)
  refine lv_aload_n hx hb dX9_four_7 rfl (lv_at hl 1 rfl) ?_
  refine va_get (D := D) (ci := 10) (v := .ref (a 1)) (C := RX9) (T := TX9) (N := 45) hx hb hts im_X9_four_X9 hown hE.1 hP 0 rfl rfl 1 (by decide) (hts (.fieldLink RX9 7 "RiverBridgesModel" "tape" "[B") (by decide +kernel)) (fun _ h9 => h9) rfl dX9_four_8 ?_
  refine lv_aload_n hx hb dX9_four_11 rfl (lv_at hl 1 rfl) ?_
  refine va_get (D := D) (ci := 10) (v := .int (((u.1 2) + 1) + 1)) (C := RX9) (T := TX9) (N := 45) hx hb hts im_X9_four_X9 hown hE.1 hP 0 rfl rfl 2 (by decide) (hts (.fieldLink RX9 106 "RiverBridgesModel" "length" "I") (by decide +kernel)) (fun _ h9 => h9) rfl dX9_four_12 ?_
  refine lv_iload_n hx hb dX9_four_15 rfl (lv_at hl 2 rfl) ?_
  refine lv_iload_n hx hb dX9_four_16 rfl (lv_at hl 0 rfl) ?_
  refine lv_ishr hx hb dX9_four_17 ?_
  refine lv_i2b (v := (v >>> (8 &&& 31)).toInt8.toInt32) hx hb dX9_four_18 rfl ?_
  refine lx_bast (g := upd (upd (upd (u.2.2 1) ((u.1 2).toNatClampNeg) (vp_nar .byte ((v >>> (24 &&& 31)).toInt8.toInt32))) (((u.1 2) + 1).toNatClampNeg) (vp_nar .byte ((v >>> (16 &&& 31)).toInt8.toInt32))) ((((u.1 2) + 1) + 1).toNatClampNeg) (vp_nar .byte ((v >>> (8 &&& 31)).toInt8.toInt32))) hx hb hE.1 hP hD hS 1 2 rfl rfl (by simp only [hI.ln.1, nI_1]; exact vp_in_nI (by omega) (by omega)) (rfl) dX9_four_19 (fun H locs hP hD hS => ?_)
  have hP := va_P_eq (WM_a1 cI cZ cB a (sg (sa (sg (sa u 1 ((u.1 2).toNatClampNeg) (vp_nar .byte ((v >>> (24 &&& 31)).toInt8.toInt32))) 2 ((u.1 2) + 1)) 1 (((u.1 2) + 1).toNatClampNeg) (vp_nar .byte ((v >>> (16 &&& 31)).toInt8.toInt32))) 2 (((u.1 2) + 1) + 1)) ((((u.1 2) + 1) + 1).toNatClampNeg) (vp_nar .byte ((v >>> (8 &&& 31)).toInt8.toInt32))) hP
  have hD := va_D_eq (WM_a1 cI cZ cB a (sg (sa (sg (sa u 1 ((u.1 2).toNatClampNeg) (vp_nar .byte ((v >>> (24 &&& 31)).toInt8.toInt32))) 2 ((u.1 2) + 1)) 1 (((u.1 2) + 1).toNatClampNeg) (vp_nar .byte ((v >>> (16 &&& 31)).toInt8.toInt32))) 2 (((u.1 2) + 1) + 1)) ((((u.1 2) + 1) + 1).toNatClampNeg) (vp_nar .byte ((v >>> (8 &&& 31)).toInt8.toInt32))) hD
  refine lv_aload_n hx hb dX9_four_20 rfl (lv_at hl 1 rfl) ?_
  refine lv_dup hx hb dX9_four_21 rfl ?_
  refine va_get (D := D) (ci := 10) (v := .int (((u.1 2) + 1) + 1)) (C := RX9) (T := TX9) (N := 45) hx hb hts im_X9_four_X9 hown hE.1 hP 0 rfl rfl 2 (by decide) (hts (.fieldLink RX9 106 "RiverBridgesModel" "length" "I") (by decide +kernel)) (fun _ h9 => h9) rfl dX9_four_22 ?_
  refine lv_iconst (v := 1) hx hb dX9_four_25 (by decide) ?_
  refine lx_iadd (v := (((u.1 2) + 1) + 1) + 1) hx hb (rfl) dX9_four_26 ?_
  refine va_put (D := D) (ci := 10) (v := .int ((((u.1 2) + 1) + 1) + 1)) (ty := .int) (C := RX9) (T := TX9) (N := 45) hx hb hts im_X9_four_X9 tyX9 tyX9_ok nmX9 hown hE.1 hP hD hS 0 rfl rfl 2 (by decide) (hts (.fieldLink RX9 106 "RiverBridgesModel" "length" "I") (by decide +kernel)) (fun _ h9 => h9) rfl (by decide +kernel) rfl rfl (Nat.le_of_ble_eq_true rfl) dX9_four_27 (fun H locs hP hD hS => ?_)
  have hP := va_P_eq (WM_g2 cI cZ cB a (sa (sg (sa (sg (sa u 1 ((u.1 2).toNatClampNeg) (vp_nar .byte ((v >>> (24 &&& 31)).toInt8.toInt32))) 2 ((u.1 2) + 1)) 1 (((u.1 2) + 1).toNatClampNeg) (vp_nar .byte ((v >>> (16 &&& 31)).toInt8.toInt32))) 2 (((u.1 2) + 1) + 1)) 1 ((((u.1 2) + 1) + 1).toNatClampNeg) (vp_nar .byte ((v >>> (8 &&& 31)).toInt8.toInt32))) ((((u.1 2) + 1) + 1) + 1)) hP
  have hD := va_D_eq (WM_g2 cI cZ cB a (sa (sg (sa (sg (sa u 1 ((u.1 2).toNatClampNeg) (vp_nar .byte ((v >>> (24 &&& 31)).toInt8.toInt32))) 2 ((u.1 2) + 1)) 1 (((u.1 2) + 1).toNatClampNeg) (vp_nar .byte ((v >>> (16 &&& 31)).toInt8.toInt32))) 2 (((u.1 2) + 1) + 1)) 1 ((((u.1 2) + 1) + 1).toNatClampNeg) (vp_nar .byte ((v >>> (8 &&& 31)).toInt8.toInt32))) ((((u.1 2) + 1) + 1) + 1)) hD
  refine lv_iinc (v := 0) (lv' := [(2, .int 0), (0, .ref (a 45)), (1, .int v)]) hx hb dX9_four_30 hl (k := 0) rfl (by decide) (by decide) rfl (fun ls hl => ?_)
  refine lv_goto (tgt := 3) hx hb dX9_four_33 (by decide) ?_
  refine lv_iload_n hx hb dX9_four_3 rfl (lv_at hl 0 rfl) ?_
  refine lv_if_lt (tgt := 36) hx hb dX9_four_4 (by decide) (fun c9 => absurd c9 (by decide)) (fun _ => ?_)
  refine lv_aload_n hx hb dX9_four_7 rfl (lv_at hl 1 rfl) ?_
  refine va_get (D := D) (ci := 10) (v := .ref (a 1)) (C := RX9) (T := TX9) (N := 45) hx hb hts im_X9_four_X9 hown hE.1 hP 0 rfl rfl 1 (by decide) (hts (.fieldLink RX9 7 "RiverBridgesModel" "tape" "[B") (by decide +kernel)) (fun _ h9 => h9) rfl dX9_four_8 ?_
  refine lv_aload_n hx hb dX9_four_11 rfl (lv_at hl 1 rfl) ?_
  refine va_get (D := D) (ci := 10) (v := .int ((((u.1 2) + 1) + 1) + 1)) (C := RX9) (T := TX9) (N := 45) hx hb hts im_X9_four_X9 hown hE.1 hP 0 rfl rfl 2 (by decide) (hts (.fieldLink RX9 106 "RiverBridgesModel" "length" "I") (by decide +kernel)) (fun _ h9 => h9) rfl dX9_four_12 ?_
  refine lv_iload_n hx hb dX9_four_15 rfl (lv_at hl 2 rfl) ?_
  refine lv_iload_n hx hb dX9_four_16 rfl (lv_at hl 0 rfl) ?_
  refine lv_ishr hx hb dX9_four_17 ?_
  refine lv_i2b (v := (v >>> (0 &&& 31)).toInt8.toInt32) hx hb dX9_four_18 rfl ?_
  refine lx_bast (g := upd (upd (upd (upd (u.2.2 1) ((u.1 2).toNatClampNeg) (vp_nar .byte ((v >>> (24 &&& 31)).toInt8.toInt32))) (((u.1 2) + 1).toNatClampNeg) (vp_nar .byte ((v >>> (16 &&& 31)).toInt8.toInt32))) ((((u.1 2) + 1) + 1).toNatClampNeg) (vp_nar .byte ((v >>> (8 &&& 31)).toInt8.toInt32))) (((((u.1 2) + 1) + 1) + 1).toNatClampNeg) (vp_nar .byte ((v >>> (0 &&& 31)).toInt8.toInt32))) hx hb hE.1 hP hD hS 1 2 rfl rfl (by simp only [hI.ln.1, nI_1]; exact vp_in_nI (by omega) (by omega)) (rfl) dX9_four_19 (fun H locs hP hD hS => ?_)
  have hP := va_P_eq (WM_a1 cI cZ cB a (sg (sa (sg (sa (sg (sa u 1 ((u.1 2).toNatClampNeg) (vp_nar .byte ((v >>> (24 &&& 31)).toInt8.toInt32))) 2 ((u.1 2) + 1)) 1 (((u.1 2) + 1).toNatClampNeg) (vp_nar .byte ((v >>> (16 &&& 31)).toInt8.toInt32))) 2 (((u.1 2) + 1) + 1)) 1 ((((u.1 2) + 1) + 1).toNatClampNeg) (vp_nar .byte ((v >>> (8 &&& 31)).toInt8.toInt32))) 2 ((((u.1 2) + 1) + 1) + 1)) (((((u.1 2) + 1) + 1) + 1).toNatClampNeg) (vp_nar .byte ((v >>> (0 &&& 31)).toInt8.toInt32))) hP
  have hD := va_D_eq (WM_a1 cI cZ cB a (sg (sa (sg (sa (sg (sa u 1 ((u.1 2).toNatClampNeg) (vp_nar .byte ((v >>> (24 &&& 31)).toInt8.toInt32))) 2 ((u.1 2) + 1)) 1 (((u.1 2) + 1).toNatClampNeg) (vp_nar .byte ((v >>> (16 &&& 31)).toInt8.toInt32))) 2 (((u.1 2) + 1) + 1)) 1 ((((u.1 2) + 1) + 1).toNatClampNeg) (vp_nar .byte ((v >>> (8 &&& 31)).toInt8.toInt32))) 2 ((((u.1 2) + 1) + 1) + 1)) (((((u.1 2) + 1) + 1) + 1).toNatClampNeg) (vp_nar .byte ((v >>> (0 &&& 31)).toInt8.toInt32))) hD
  refine lv_aload_n hx hb dX9_four_20 rfl (lv_at hl 1 rfl) ?_
  refine lv_dup hx hb dX9_four_21 rfl ?_
  refine va_get (D := D) (ci := 10) (v := .int ((((u.1 2) + 1) + 1) + 1)) (C := RX9) (T := TX9) (N := 45) hx hb hts im_X9_four_X9 hown hE.1 hP 0 rfl rfl 2 (by decide) (hts (.fieldLink RX9 106 "RiverBridgesModel" "length" "I") (by decide +kernel)) (fun _ h9 => h9) rfl dX9_four_22 ?_
  refine lv_iconst (v := 1) hx hb dX9_four_25 (by decide) ?_
  refine lx_iadd (v := ((((u.1 2) + 1) + 1) + 1) + 1) hx hb (rfl) dX9_four_26 ?_
  refine va_put (D := D) (ci := 10) (v := .int (((((u.1 2) + 1) + 1) + 1) + 1)) (ty := .int) (C := RX9) (T := TX9) (N := 45) hx hb hts im_X9_four_X9 tyX9 tyX9_ok nmX9 hown hE.1 hP hD hS 0 rfl rfl 2 (by decide) (hts (.fieldLink RX9 106 "RiverBridgesModel" "length" "I") (by decide +kernel)) (fun _ h9 => h9) rfl (by decide +kernel) rfl rfl (Nat.le_of_ble_eq_true rfl) dX9_four_27 (fun H locs hP hD hS => ?_)
  have hP := va_P_eq (WM_g2 cI cZ cB a (sa (sg (sa (sg (sa (sg (sa u 1 ((u.1 2).toNatClampNeg) (vp_nar .byte ((v >>> (24 &&& 31)).toInt8.toInt32))) 2 ((u.1 2) + 1)) 1 (((u.1 2) + 1).toNatClampNeg) (vp_nar .byte ((v >>> (16 &&& 31)).toInt8.toInt32))) 2 (((u.1 2) + 1) + 1)) 1 ((((u.1 2) + 1) + 1).toNatClampNeg) (vp_nar .byte ((v >>> (8 &&& 31)).toInt8.toInt32))) 2 ((((u.1 2) + 1) + 1) + 1)) 1 (((((u.1 2) + 1) + 1) + 1).toNatClampNeg) (vp_nar .byte ((v >>> (0 &&& 31)).toInt8.toInt32))) (((((u.1 2) + 1) + 1) + 1) + 1)) hP
  have hD := va_D_eq (WM_g2 cI cZ cB a (sa (sg (sa (sg (sa (sg (sa u 1 ((u.1 2).toNatClampNeg) (vp_nar .byte ((v >>> (24 &&& 31)).toInt8.toInt32))) 2 ((u.1 2) + 1)) 1 (((u.1 2) + 1).toNatClampNeg) (vp_nar .byte ((v >>> (16 &&& 31)).toInt8.toInt32))) 2 (((u.1 2) + 1) + 1)) 1 ((((u.1 2) + 1) + 1).toNatClampNeg) (vp_nar .byte ((v >>> (8 &&& 31)).toInt8.toInt32))) 2 ((((u.1 2) + 1) + 1) + 1)) 1 (((((u.1 2) + 1) + 1) + 1).toNatClampNeg) (vp_nar .byte ((v >>> (0 &&& 31)).toInt8.toInt32))) (((((u.1 2) + 1) + 1) + 1) + 1)) hD
  refine lv_iinc (v := -8) (lv' := [(2, .int (-8)), (0, .ref (a 45)), (1, .int v)]) hx hb dX9_four_30 hl (k := 0) rfl (by decide) (by decide) rfl (fun ls hl => ?_)
  refine lv_goto (tgt := 3) hx hb dX9_four_33 (by decide) ?_
  refine lv_iload_n hx hb dX9_four_3 rfl (lv_at hl 0 rfl) ?_
  refine lv_if_lt (tgt := 36) hx hb dX9_four_4 (by decide) (fun _ => ?_) (fun c9 => absurd (by decide) c9)
  exact ss_vret () hx hb hr hlocks (by rw [hf]; exact hP) (by rw [hf]; exact hD) hS trivial (Nat.le_of_ble_eq_true rfl) (Nat.le_of_ble_eq_true rfl) dX9_four_36
theorem MI_four {nB nS nK mi ln : Nat} {u : RS} {v : Int32} (h : MI nB nS nK mi ln u) (h4 : ln + 4 ≤ 440) : MI nB nS nK mi (ln + 4) (f_four u v) := by
  rw [f_four_s]
  refine MI_2 (ln := ln + 3) (MI_sa (MI_2 (ln := ln + 2) (MI_sa (MI_2 (ln := ln + 1) (MI_sa (MI_2 (ln := ln) (MI_sa h (by decide)) ⟨?_, by omega⟩) (by decide)) ⟨?_, by omega⟩) (by decide)) ⟨?_, by omega⟩) (by decide)) ⟨?_, by omega⟩
  all_goals simp only [h.ln.1, nI_1]
def f_feed (u : RS) (a1 : Int32) (b1 : Int32) (c1 : Int32) (d1 : Int32) (e1 : Int32) : Int32 × RS := (if (u.1 2) + 20 ≤ 440 then ((f_four (f_four (f_four (f_four (f_four (sg u 0 0) a1) b1) c1) d1) e1).1 2, (f_four (f_four (f_four (f_four (f_four (sg u 0 0) a1) b1) c1) d1) e1)) else (-1, (sg u 0 0)))
theorem f_feed_s (u : RS) (a1 : Int32) (b1 : Int32) (c1 : Int32) (d1 : Int32) (e1 : Int32) : f_feed u a1 b1 c1 d1 e1 = (if (u.1 2) + 20 ≤ 440 then ((f_four (f_four (f_four (f_four (f_four (sg u 0 0) a1) b1) c1) d1) e1).1 2, (f_four (f_four (f_four (f_four (f_four (sg u 0 0) a1) b1) c1) d1) e1)) else (-1, (sg u 0 0))) := rfl
theorem im_X9_feed_X9 : ∀ w ∈ wsX90, w ∈ wsX9_feed := fun _ h => List.mem_cons_of_mem _ (List.mem_append_right _ h)
set_option maxHeartbeats 400000 in
set_option maxRecDepth 100000 in
theorem m_feed (l : Launch) (D : va_G) (cI cZ cB cO cJ : ClassId) (a0 sz : Nat) (a : Nat → Nat) (nB nS nK mi ln : Nat) (u : RS) (a1 : Int32) (b1 : Int32) (c1 : Int32) (d1 : Int32) (e1 : Int32) (hI : MI nB nS nK mi ln u) : Met l yX9_feed wsX9_feed ({ frames := 1, cells := 0, slots := 0, locals := 22 }) (Pcs D cI cZ cB cO cJ a0 [.ref (a 45), .int a1, .int b1, .int c1, .int d1, .int e1] (WM cI cZ cB a u) sz) (va_Qi (fun (r : Int32) (_ : Unit) => r = (f_feed u a1 b1 c1 d1 e1).1) (fun (_ : Unit) t => va_P D vwCl (WM cI cZ cB a (f_feed u a1 b1 c1 d1 e1).2) t.heap ∧ va_D (va_A (WM cI cZ cB a u) sz) (WM cI cZ cB a (f_feed u a1 b1 c1 d1 e1).2)) (va_A (WM cI cZ cB a u) sz)) 0 0 (va_A (WM cI cZ cB a u) sz) := by
  refine Met.ofW (cc := cX9_feed) (maxL := 6) (ret := (some .int)) (by decide) rfl ?_
  intro p e s m args below meth c s₁ B hml hv
  obtain ⟨rfl, hsz, hP, hE, hD0, hZ⟩ := hv
  have hx := B.exec
  have hb := B.bytes
  have hr := B.returns
  have hts := atoms_spec (ws := wsX9_feed) B.pre
  have hown : s.vm.findClass RX9 = some m.cls := findClass_of_methodNamed B.named
  have hlocks := B.notSynchronized
  subst hsz
  have hD := hD0.self (sz := s.heap.size)
  generalize hAe : va_A (WM cI cZ cB a u) s.heap.size = A at hD hZ ⊢
  have hA : ∀ q : Nat, s.heap.size ≤ q → A q := fun q h => by rw [← hAe]; exact Or.inr h
  clear hAe
  have hS : va_S A s.heap s.heap [] := va_S.rf
  have hP : va_P D vwCl (WM cI cZ cB a u) s.heap := hP
  have hl := lv_entry ([.ref (a 45), .int a1, .int b1, .int c1, .int d1, .int e1]) (n := 6) (Nat.le_of_ble_eq_true rfl)
  rw [lg_entry_eq]
  generalize (lg_sl ([.ref (a 45), .int a1, .int b1, .int c1, .int d1, .int e1]) ++ List.replicate (6 - (lg_sl ([.ref (a 45), .int a1, .int b1, .int c1, .int d1, .int e1])).length) Slot.unset).toArray = ls at hl ⊢
  have hl : lv_has ls 6 [(0, .ref (a 45)), (1, .int a1), (2, .int b1), (3, .int c1), (4, .int d1), (5, .int e1)] := hl
  have hf := f_feed_s u a1 b1 c1 d1 e1
  refine lv_aload_n hx hb dX9_feed_0 rfl (lv_at hl 0 rfl) ?_
  refine lv_iconst (v := 0) hx hb dX9_feed_1 (by decide) ?_
  refine va_put (D := D) (ci := 10) (v := .int 0) (ty := .int) (C := RX9) (T := TX9) (N := 45) hx hb hts im_X9_feed_X9 tyX9 tyX9_ok nmX9 hown hE.1 hP hD hS 0 rfl rfl 0 (by decide) (hts (.fieldLink RX9 103 "RiverBridgesModel" "thrown" "I") (by decide +kernel)) (fun _ h9 => h9) rfl (by decide +kernel) rfl rfl (Nat.le_of_ble_eq_true rfl) dX9_feed_2 (fun H locs hP hD hS => ?_)
  have hP := va_P_eq (WM_g0 cI cZ cB a u 0) hP
  have hD := va_D_eq (WM_g0 cI cZ cB a u 0) hD
  refine lv_aload_n hx hb dX9_feed_5 rfl (lv_at hl 0 rfl) ?_
  refine va_get (D := D) (ci := 10) (v := .int (u.1 2)) (C := RX9) (T := TX9) (N := 45) hx hb hts im_X9_feed_X9 hown hE.1 hP 0 rfl rfl 2 (by decide) (hts (.fieldLink RX9 106 "RiverBridgesModel" "length" "I") (by decide +kernel)) (fun _ h9 => h9) rfl dX9_feed_6 ?_
  refine lv_bipush (v := 20) hx hb dX9_feed_9 (by decide) ?_
  refine lx_iadd (v := (u.1 2) + 20) hx hb (rfl) dX9_feed_11 ?_
  refine lv_sipush (v := 440) hx hb dX9_feed_12 (by decide) ?_
  refine lv_icmp_le (tgt := 20) hx hb dX9_feed_15 (by decide) (fun cf => ?_) (fun cf => ?_)
  · replace hf := hf.trans (if_pos cf)
    have hl20 : ln + 20 ≤ 440 := by rw [hI.ln.1] at cf; exact nleI (nI_add _ 20) (by have := hI.ln.2; omega) (by decide) cf
    have hI0 := MI_sg (k := 0) (v := 0) hI (by decide)
    refine lv_aload_n hx hb dX9_feed_20 rfl (lv_at hl 0 rfl) ?_
    refine lv_iload_n hx hb dX9_feed_21 rfl (lv_at hl 1 rfl) ?_
    refine sf_callv (va_runV (As := [.int a1]) (rest := []) ⟨hx, hb, hml, hown, hts⟩ (m_four l D cI cZ cB cO cJ a0 H.size a _ _ _ _ _  (sg u 0 0) a1 (hI0) (by omega)) (cwV 1 hts gX9_feed_X9_four rfl rfl rfl (by decide +kernel) ⟨Nat.le_of_ble_eq_true rfl, Nat.le_of_ble_eq_true rfl⟩) (preV_full hE hZ hA hS hP hD (va_recv hE.1 hP (ci := 10) (q0 := 0) rfl rfl)) rfl rfl hl.1 rfl (lv_room (Nat.le_of_ble_eq_true rfl)) dX9_feed_22 ⟨Nat.le_of_ble_eq_true rfl, Nat.le_of_ble_eq_true rfl⟩) hP hD hS hA (fun u9 H locs hw hP hD hS => ?_)
    have hP : va_P D vwCl (WM cI cZ cB a (f_four (sg u 0 0) a1)) H := hP
    have hD : va_D A (WM cI cZ cB a (f_four (sg u 0 0) a1)) := hD
    have hI1 := MI_four (v := a1) hI0 (by omega)
    refine lv_aload_n hx hb dX9_feed_25 rfl (lv_at hl 0 rfl) ?_
    refine lv_iload_n hx hb dX9_feed_26 rfl (lv_at hl 2 rfl) ?_
    refine sf_callv (va_runV (As := [.int b1]) (rest := []) ⟨hx, hb, hml, hown, hts⟩ (m_four l D cI cZ cB cO cJ a0 H.size a _ _ _ _ _  (f_four (sg u 0 0) a1) b1 (hI1) (by omega)) (cwV 1 hts gX9_feed_X9_four rfl rfl rfl (by decide +kernel) ⟨Nat.le_of_ble_eq_true rfl, Nat.le_of_ble_eq_true rfl⟩) (preV_full hE hZ hA hS hP hD (va_recv hE.1 hP (ci := 10) (q0 := 0) rfl rfl)) rfl rfl hl.1 rfl (lv_room (Nat.le_of_ble_eq_true rfl)) dX9_feed_27 ⟨Nat.le_of_ble_eq_true rfl, Nat.le_of_ble_eq_true rfl⟩) hP hD hS hA (fun u9 H locs hw hP hD hS => ?_)
    have hP : va_P D vwCl (WM cI cZ cB a (f_four (f_four (sg u 0 0) a1) b1)) H := hP
    have hD : va_D A (WM cI cZ cB a (f_four (f_four (sg u 0 0) a1) b1)) := hD
    have hI2 := MI_four (v := b1) hI1 (by omega)
    refine lv_aload_n hx hb dX9_feed_30 rfl (lv_at hl 0 rfl) ?_
    refine lv_iload_n hx hb dX9_feed_31 rfl (lv_at hl 3 rfl) ?_
    refine sf_callv (va_runV (As := [.int c1]) (rest := []) ⟨hx, hb, hml, hown, hts⟩ (m_four l D cI cZ cB cO cJ a0 H.size a _ _ _ _ _  (f_four (f_four (sg u 0 0) a1) b1) c1 (hI2) (by omega)) (cwV 1 hts gX9_feed_X9_four rfl rfl rfl (by decide +kernel) ⟨Nat.le_of_ble_eq_true rfl, Nat.le_of_ble_eq_true rfl⟩) (preV_full hE hZ hA hS hP hD (va_recv hE.1 hP (ci := 10) (q0 := 0) rfl rfl)) rfl rfl hl.1 rfl (lv_room (Nat.le_of_ble_eq_true rfl)) dX9_feed_32 ⟨Nat.le_of_ble_eq_true rfl, Nat.le_of_ble_eq_true rfl⟩) hP hD hS hA (fun u9 H locs hw hP hD hS => ?_)
    have hP : va_P D vwCl (WM cI cZ cB a (f_four (f_four (f_four (sg u 0 0) a1) b1) c1)) H := hP
    have hD : va_D A (WM cI cZ cB a (f_four (f_four (f_four (sg u 0 0) a1) b1) c1)) := hD
    have hI3 := MI_four (v := c1) hI2 (by omega)
    refine lv_aload_n hx hb dX9_feed_35 rfl (lv_at hl 0 rfl) ?_
    refine lv_iload hx hb dX9_feed_36 (lv_at hl 4 rfl) ?_
    refine sf_callv (va_runV (As := [.int d1]) (rest := []) ⟨hx, hb, hml, hown, hts⟩ (m_four l D cI cZ cB cO cJ a0 H.size a _ _ _ _ _  (f_four (f_four (f_four (sg u 0 0) a1) b1) c1) d1 (hI3) (by omega)) (cwV 1 hts gX9_feed_X9_four rfl rfl rfl (by decide +kernel) ⟨Nat.le_of_ble_eq_true rfl, Nat.le_of_ble_eq_true rfl⟩) (preV_full hE hZ hA hS hP hD (va_recv hE.1 hP (ci := 10) (q0 := 0) rfl rfl)) rfl rfl hl.1 rfl (lv_room (Nat.le_of_ble_eq_true rfl)) dX9_feed_38 ⟨Nat.le_of_ble_eq_true rfl, Nat.le_of_ble_eq_true rfl⟩) hP hD hS hA (fun u9 H locs hw hP hD hS => ?_)
    have hP : va_P D vwCl (WM cI cZ cB a (f_four (f_four (f_four (f_four (sg u 0 0) a1) b1) c1) d1)) H := hP
    have hD : va_D A (WM cI cZ cB a (f_four (f_four (f_four (f_four (sg u 0 0) a1) b1) c1) d1)) := hD
    have hI4 := MI_four (v := d1) hI3 (by omega)
    refine lv_aload_n hx hb dX9_feed_41 rfl (lv_at hl 0 rfl) ?_
    refine lv_iload hx hb dX9_feed_42 (lv_at hl 5 rfl) ?_
    refine sf_callv (va_runV (As := [.int e1]) (rest := []) ⟨hx, hb, hml, hown, hts⟩ (m_four l D cI cZ cB cO cJ a0 H.size a _ _ _ _ _  (f_four (f_four (f_four (f_four (sg u 0 0) a1) b1) c1) d1) e1 (hI4) (by omega)) (cwV 1 hts gX9_feed_X9_four rfl rfl rfl (by decide +kernel) ⟨Nat.le_of_ble_eq_true rfl, Nat.le_of_ble_eq_true rfl⟩) (preV_full hE hZ hA hS hP hD (va_recv hE.1 hP (ci := 10) (q0 := 0) rfl rfl)) rfl rfl hl.1 rfl (lv_room (Nat.le_of_ble_eq_true rfl)) dX9_feed_44 ⟨Nat.le_of_ble_eq_true rfl, Nat.le_of_ble_eq_true rfl⟩) hP hD hS hA (fun u9 H locs hw hP hD hS => ?_)
    have hP : va_P D vwCl (WM cI cZ cB a (f_four (f_four (f_four (f_four (f_four (sg u 0 0) a1) b1) c1) d1) e1)) H := hP
    have hD : va_D A (WM cI cZ cB a (f_four (f_four (f_four (f_four (f_four (sg u 0 0) a1) b1) c1) d1) e1)) := hD
    have hI5 := MI_four (v := e1) hI4 (by omega)
    refine lv_aload_n hx hb dX9_feed_47 rfl (lv_at hl 0 rfl) ?_
    refine va_get (D := D) (ci := 10) (v := .int ((f_four (f_four (f_four (f_four (f_four (sg u 0 0) a1) b1) c1) d1) e1).1 2)) (C := RX9) (T := TX9) (N := 45) hx hb hts im_X9_feed_X9 hown hE.1 hP 0 rfl rfl 2 (by decide) (hts (.fieldLink RX9 106 "RiverBridgesModel" "length" "I") (by decide +kernel)) (fun _ h9 => h9) rfl dX9_feed_48 ?_
    exact ss_iret () hx hb hr hlocks (by rw [hf]; exact hP) (by rw [hf]; exact hD) hS (by rw [hf]) (Nat.le_of_ble_eq_true rfl) (Nat.le_of_ble_eq_true rfl) dX9_feed_51
  · replace hf := hf.trans (if_neg cf)
    refine lv_iconst (v := -1) hx hb dX9_feed_18 (by decide) ?_
    exact ss_iret () hx hb hr hlocks (by rw [hf]; exact hP) (by rw [hf]; exact hD) hS (by rw [hf]) (Nat.le_of_ble_eq_true rfl) (Nat.le_of_ble_eq_true rfl) dX9_feed_19
def f_bridge (u : RS) (k1 : Int32) (k2 : Int32) (k3 : Int32) (k4 : Int32) (k5 : Int32) (k6 : Int32) : Int32 × RS := (if u.1 17 = 8 then (-1, (sg u 0 0)) else (if u.1 18 = 0 then (if f_isIn (sg u 0 0) k1 0 400 = 0 then (-1, (sg u 0 0)) else (if f_isIn (sg u 0 0) k2 1 9 = 0 then (-1, (sg u 0 0)) else (if f_isIn (sg u 0 0) k3 1 9 = 0 then (-1, (sg u 0 0)) else (if f_isIn (sg u 0 0) k4 1 60 = 0 then (-1, (sg u 0 0)) else (if f_isIn (sg u 0 0) k5 0 60 = 0 then (-1, (sg u 0 0)) else (if f_isIn (sg u 0 0) k6 1 99 = 0 then (-1, (sg u 0 0)) else (((u.1 17) + 1) - 1, (sg (sa (sa (sa (sa (sa (sa (sa (sg u 0 0) 5 ((u.1 17).toNatClampNeg) k1) 6 ((u.1 17).toNatClampNeg) k2) 7 ((u.1 17).toNatClampNeg) k3) 8 ((u.1 17).toNatClampNeg) k4) 9 ((u.1 17).toNatClampNeg) k5) 10 ((u.1 17).toNatClampNeg) k6) 12 ((u.1 17).toNatClampNeg) (-1)) 17 ((u.1 17) + 1))))))))) else (-1, (sg u 0 0))))
theorem f_bridge_s (u : RS) (k1 : Int32) (k2 : Int32) (k3 : Int32) (k4 : Int32) (k5 : Int32) (k6 : Int32) : f_bridge u k1 k2 k3 k4 k5 k6 = (if u.1 17 = 8 then (-1, (sg u 0 0)) else (if u.1 18 = 0 then (if f_isIn (sg u 0 0) k1 0 400 = 0 then (-1, (sg u 0 0)) else (if f_isIn (sg u 0 0) k2 1 9 = 0 then (-1, (sg u 0 0)) else (if f_isIn (sg u 0 0) k3 1 9 = 0 then (-1, (sg u 0 0)) else (if f_isIn (sg u 0 0) k4 1 60 = 0 then (-1, (sg u 0 0)) else (if f_isIn (sg u 0 0) k5 0 60 = 0 then (-1, (sg u 0 0)) else (if f_isIn (sg u 0 0) k6 1 99 = 0 then (-1, (sg u 0 0)) else (((u.1 17) + 1) - 1, (sg (sa (sa (sa (sa (sa (sa (sa (sg u 0 0) 5 ((u.1 17).toNatClampNeg) k1) 6 ((u.1 17).toNatClampNeg) k2) 7 ((u.1 17).toNatClampNeg) k3) 8 ((u.1 17).toNatClampNeg) k4) 9 ((u.1 17).toNatClampNeg) k5) 10 ((u.1 17).toNatClampNeg) k6) 12 ((u.1 17).toNatClampNeg) (-1)) 17 ((u.1 17) + 1))))))))) else (-1, (sg u 0 0)))) := rfl
theorem im_X9_bridge_X9 : ∀ w ∈ wsX90, w ∈ wsX9_bridge := fun _ h => List.mem_cons_of_mem _ (List.mem_append_right _ h)
set_option maxHeartbeats 400000 in
set_option maxRecDepth 100000 in
theorem m_bridge (l : Launch) (D : va_G) (cI cZ cB cO cJ : ClassId) (a0 sz : Nat) (a : Nat → Nat) (nB nS nK mi ln : Nat) (u : RS) (k1 : Int32) (k2 : Int32) (k3 : Int32) (k4 : Int32) (k5 : Int32) (k6 : Int32) (hI : MI nB nS nK mi ln u) : Met l yX9_bridge wsX9_bridge ({ frames := 1, cells := 0, slots := 0, locals := 22 }) (Pcs D cI cZ cB cO cJ a0 [.ref (a 45), .int k1, .int k2, .int k3, .int k4, .int k5, .int k6] (WM cI cZ cB a u) sz) (va_Qi (fun (r : Int32) (_ : Unit) => r = (f_bridge u k1 k2 k3 k4 k5 k6).1) (fun (_ : Unit) t => va_P D vwCl (WM cI cZ cB a (f_bridge u k1 k2 k3 k4 k5 k6).2) t.heap ∧ va_D (va_A (WM cI cZ cB a u) sz) (WM cI cZ cB a (f_bridge u k1 k2 k3 k4 k5 k6).2)) (va_A (WM cI cZ cB a u) sz)) 0 0 (va_A (WM cI cZ cB a u) sz) := by
  refine Met.ofW (cc := cX9_bridge) (maxL := 7) (ret := (some .int)) (by decide) rfl ?_
  intro p e s m args below meth c s₁ B hml hv
  obtain ⟨rfl, hsz, hP, hE, hD0, hZ⟩ := hv
  have hx := B.exec
  have hb := B.bytes
  have hr := B.returns
  have hts := atoms_spec (ws := wsX9_bridge) B.pre
  have hown : s.vm.findClass RX9 = some m.cls := findClass_of_methodNamed B.named
  have hlocks := B.notSynchronized
  subst hsz
  have hD := hD0.self (sz := s.heap.size)
  generalize hAe : va_A (WM cI cZ cB a u) s.heap.size = A at hD hZ ⊢
  have hA : ∀ q : Nat, s.heap.size ≤ q → A q := fun q h => by rw [← hAe]; exact Or.inr h
  clear hAe
  have hS : va_S A s.heap s.heap [] := va_S.rf
  have hP : va_P D vwCl (WM cI cZ cB a u) s.heap := hP
  have hl := lv_entry ([.ref (a 45), .int k1, .int k2, .int k3, .int k4, .int k5, .int k6]) (n := 7) (Nat.le_of_ble_eq_true rfl)
  rw [lg_entry_eq]
  generalize (lg_sl ([.ref (a 45), .int k1, .int k2, .int k3, .int k4, .int k5, .int k6]) ++ List.replicate (7 - (lg_sl ([.ref (a 45), .int k1, .int k2, .int k3, .int k4, .int k5, .int k6])).length) Slot.unset).toArray = ls at hl ⊢
  have hl : lv_has ls 7 [(0, .ref (a 45)), (1, .int k1), (2, .int k2), (3, .int k3), (4, .int k4), (5, .int k5), (6, .int k6)] := hl
  have hf := f_bridge_s u k1 k2 k3 k4 k5 k6
  refine lv_aload_n hx hb dX9_bridge_0 rfl (lv_at hl 0 rfl) ?_
  refine lv_iconst (v := 0) hx hb dX9_bridge_1 (by decide) ?_
  refine va_put (D := D) (ci := 10) (v := .int 0) (ty := .int) (C := RX9) (T := TX9) (N := 45) hx hb hts im_X9_bridge_X9 tyX9 tyX9_ok nmX9 hown hE.1 hP hD hS 0 rfl rfl 0 (by decide) (hts (.fieldLink RX9 103 "RiverBridgesModel" "thrown" "I") (by decide +kernel)) (fun _ h9 => h9) rfl (by decide +kernel) rfl rfl (Nat.le_of_ble_eq_true rfl) dX9_bridge_2 (fun H locs hP hD hS => ?_)
  have hP := va_P_eq (WM_g0 cI cZ cB a u 0) hP
  have hD := va_D_eq (WM_g0 cI cZ cB a u 0) hD
  refine lv_aload_n hx hb dX9_bridge_5 rfl (lv_at hl 0 rfl) ?_
  refine va_get (D := D) (ci := 10) (v := .int (u.1 17)) (C := RX9) (T := TX9) (N := 45) hx hb hts im_X9_bridge_X9 hown hE.1 hP 0 rfl rfl 17 (by decide) (hts (.fieldLink RX9 119 "RiverBridgesModel" "bridges" "I") (by decide +kernel)) (fun _ h9 => h9) rfl dX9_bridge_6 ?_
  refine lv_bipush (v := 8) hx hb dX9_bridge_9 (by decide) ?_
  refine lv_icmp_eq (tgt := 85) hx hb dX9_bridge_11 (by decide) (fun c8 => ?_) (fun c8 => ?_)
  · replace hf := hf.trans (if_pos c8)
    refine lv_iconst (v := -1) hx hb dX9_bridge_85 (by decide) ?_
    exact ss_iret () hx hb hr hlocks (by rw [hf]; exact hP) (by rw [hf]; exact hD) hS (by rw [hf]) (Nat.le_of_ble_eq_true rfl) (Nat.le_of_ble_eq_true rfl) dX9_bridge_86
  · replace hf := hf.trans (if_neg c8)
    refine lv_aload_n hx hb dX9_bridge_14 rfl (lv_at hl 0 rfl) ?_
    refine va_get (D := D) (ci := 10) (v := .int (u.1 18)) (C := RX9) (T := TX9) (N := 45) hx hb hts im_X9_bridge_X9 hown hE.1 hP 0 rfl rfl 18 (by decide) (hts (.fieldLink RX9 122 "RiverBridgesModel" "minute" "I") (by decide +kernel)) (fun _ h9 => h9) rfl dX9_bridge_15 ?_
    refine lv_if_ne (tgt := 85) hx hb dX9_bridge_18 (by decide) (fun c1 => ?_) (fun c1 => ?_)
    · replace hf := hf.trans (if_neg c1)
      refine lv_iconst (v := -1) hx hb dX9_bridge_85 (by decide) ?_
      exact ss_iret () hx hb hr hlocks (by rw [hf]; exact hP) (by rw [hf]; exact hD) hS (by rw [hf]) (Nat.le_of_ble_eq_true rfl) (Nat.le_of_ble_eq_true rfl) dX9_bridge_86
    · replace hf := hf.trans (if_pos c1)
      refine lv_iload_n hx hb dX9_bridge_21 rfl (lv_at hl 1 rfl) ?_
      refine lv_iconst (v := 0) hx hb dX9_bridge_22 (by decide) ?_
      refine lv_sipush (v := 400) hx hb dX9_bridge_23 (by decide) ?_
      refine sf_calli (va_runS (As := [.int k1, .int 0, .int 400]) (rest := []) ⟨hx, hb, hml, hown, hts⟩ (m_isIn l D cI cZ cB cO cJ a0 H.size a  (sg u 0 0) k1 0 400 ) (cwS 3 hts gX9_bridge_X9_isIn rfl rfl rfl (by decide +kernel) ⟨Nat.le_of_ble_eq_true rfl, Nat.le_of_ble_eq_true rfl⟩) (preS_full hE hZ hA hS hP hD) rfl rfl hl.1 rfl (lv_room (Nat.le_of_ble_eq_true rfl)) dX9_bridge_26 ⟨Nat.le_of_ble_eq_true rfl, Nat.le_of_ble_eq_true rfl⟩) hP hD hS hA (fun r9 u9 H locs hw hP hD hS => ?_)
      subst hw
      have hP : va_P D vwCl (WM cI cZ cB a (sg u 0 0)) H := hP
      have hD : va_D A (WM cI cZ cB a (sg u 0 0)) := hD
      refine lv_if_eq (tgt := 85) hx hb dX9_bridge_29 (by decide) (fun c2 => ?_) (fun c2 => ?_)
      · replace hf := hf.trans (if_pos c2)
        refine lv_iconst (v := -1) hx hb dX9_bridge_85 (by decide) ?_
        exact ss_iret () hx hb hr hlocks (by rw [hf]; exact hP) (by rw [hf]; exact hD) hS (by rw [hf]) (Nat.le_of_ble_eq_true rfl) (Nat.le_of_ble_eq_true rfl) dX9_bridge_86
      · replace hf := hf.trans (if_neg c2)
        refine lv_iload_n hx hb dX9_bridge_32 rfl (lv_at hl 2 rfl) ?_
        refine lv_iconst (v := 1) hx hb dX9_bridge_33 (by decide) ?_
        refine lv_bipush (v := 9) hx hb dX9_bridge_34 (by decide) ?_
        refine sf_calli (va_runS (As := [.int k2, .int 1, .int 9]) (rest := []) ⟨hx, hb, hml, hown, hts⟩ (m_isIn l D cI cZ cB cO cJ a0 H.size a  (sg u 0 0) k2 1 9 ) (cwS 3 hts gX9_bridge_X9_isIn rfl rfl rfl (by decide +kernel) ⟨Nat.le_of_ble_eq_true rfl, Nat.le_of_ble_eq_true rfl⟩) (preS_full hE hZ hA hS hP hD) rfl rfl hl.1 rfl (lv_room (Nat.le_of_ble_eq_true rfl)) dX9_bridge_36 ⟨Nat.le_of_ble_eq_true rfl, Nat.le_of_ble_eq_true rfl⟩) hP hD hS hA (fun r9 u9 H locs hw hP hD hS => ?_)
        subst hw
        have hP : va_P D vwCl (WM cI cZ cB a (sg u 0 0)) H := hP
        have hD : va_D A (WM cI cZ cB a (sg u 0 0)) := hD
        refine lv_if_eq (tgt := 85) hx hb dX9_bridge_39 (by decide) (fun c3 => ?_) (fun c3 => ?_)
        · replace hf := hf.trans (if_pos c3)
          refine lv_iconst (v := -1) hx hb dX9_bridge_85 (by decide) ?_
          exact ss_iret () hx hb hr hlocks (by rw [hf]; exact hP) (by rw [hf]; exact hD) hS (by rw [hf]) (Nat.le_of_ble_eq_true rfl) (Nat.le_of_ble_eq_true rfl) dX9_bridge_86
        · replace hf := hf.trans (if_neg c3)
          refine lv_iload_n hx hb dX9_bridge_42 rfl (lv_at hl 3 rfl) ?_
          refine lv_iconst (v := 1) hx hb dX9_bridge_43 (by decide) ?_
          refine lv_bipush (v := 9) hx hb dX9_bridge_44 (by decide) ?_
          refine sf_calli (va_runS (As := [.int k3, .int 1, .int 9]) (rest := []) ⟨hx, hb, hml, hown, hts⟩ (m_isIn l D cI cZ cB cO cJ a0 H.size a  (sg u 0 0) k3 1 9 ) (cwS 3 hts gX9_bridge_X9_isIn rfl rfl rfl (by decide +kernel) ⟨Nat.le_of_ble_eq_true rfl, Nat.le_of_ble_eq_true rfl⟩) (preS_full hE hZ hA hS hP hD) rfl rfl hl.1 rfl (lv_room (Nat.le_of_ble_eq_true rfl)) dX9_bridge_46 ⟨Nat.le_of_ble_eq_true rfl, Nat.le_of_ble_eq_true rfl⟩) hP hD hS hA (fun r9 u9 H locs hw hP hD hS => ?_)
          subst hw
          have hP : va_P D vwCl (WM cI cZ cB a (sg u 0 0)) H := hP
          have hD : va_D A (WM cI cZ cB a (sg u 0 0)) := hD
          refine lv_if_eq (tgt := 85) hx hb dX9_bridge_49 (by decide) (fun c4 => ?_) (fun c4 => ?_)
          · replace hf := hf.trans (if_pos c4)
            refine lv_iconst (v := -1) hx hb dX9_bridge_85 (by decide) ?_
            exact ss_iret () hx hb hr hlocks (by rw [hf]; exact hP) (by rw [hf]; exact hD) hS (by rw [hf]) (Nat.le_of_ble_eq_true rfl) (Nat.le_of_ble_eq_true rfl) dX9_bridge_86
          · replace hf := hf.trans (if_neg c4)
            refine lv_iload hx hb dX9_bridge_52 (lv_at hl 4 rfl) ?_
            refine lv_iconst (v := 1) hx hb dX9_bridge_54 (by decide) ?_
            refine lv_bipush (v := 60) hx hb dX9_bridge_55 (by decide) ?_
            refine sf_calli (va_runS (As := [.int k4, .int 1, .int 60]) (rest := []) ⟨hx, hb, hml, hown, hts⟩ (m_isIn l D cI cZ cB cO cJ a0 H.size a  (sg u 0 0) k4 1 60 ) (cwS 3 hts gX9_bridge_X9_isIn rfl rfl rfl (by decide +kernel) ⟨Nat.le_of_ble_eq_true rfl, Nat.le_of_ble_eq_true rfl⟩) (preS_full hE hZ hA hS hP hD) rfl rfl hl.1 rfl (lv_room (Nat.le_of_ble_eq_true rfl)) dX9_bridge_57 ⟨Nat.le_of_ble_eq_true rfl, Nat.le_of_ble_eq_true rfl⟩) hP hD hS hA (fun r9 u9 H locs hw hP hD hS => ?_)
            subst hw
            have hP : va_P D vwCl (WM cI cZ cB a (sg u 0 0)) H := hP
            have hD : va_D A (WM cI cZ cB a (sg u 0 0)) := hD
            refine lv_if_eq (tgt := 85) hx hb dX9_bridge_60 (by decide) (fun c5 => ?_) (fun c5 => ?_)
            · replace hf := hf.trans (if_pos c5)
              refine lv_iconst (v := -1) hx hb dX9_bridge_85 (by decide) ?_
              exact ss_iret () hx hb hr hlocks (by rw [hf]; exact hP) (by rw [hf]; exact hD) hS (by rw [hf]) (Nat.le_of_ble_eq_true rfl) (Nat.le_of_ble_eq_true rfl) dX9_bridge_86
            · replace hf := hf.trans (if_neg c5)
              refine lv_iload hx hb dX9_bridge_63 (lv_at hl 5 rfl) ?_
              refine lv_iconst (v := 0) hx hb dX9_bridge_65 (by decide) ?_
              refine lv_bipush (v := 60) hx hb dX9_bridge_66 (by decide) ?_
              refine sf_calli (va_runS (As := [.int k5, .int 0, .int 60]) (rest := []) ⟨hx, hb, hml, hown, hts⟩ (m_isIn l D cI cZ cB cO cJ a0 H.size a  (sg u 0 0) k5 0 60 ) (cwS 3 hts gX9_bridge_X9_isIn rfl rfl rfl (by decide +kernel) ⟨Nat.le_of_ble_eq_true rfl, Nat.le_of_ble_eq_true rfl⟩) (preS_full hE hZ hA hS hP hD) rfl rfl hl.1 rfl (lv_room (Nat.le_of_ble_eq_true rfl)) dX9_bridge_68 ⟨Nat.le_of_ble_eq_true rfl, Nat.le_of_ble_eq_true rfl⟩) hP hD hS hA (fun r9 u9 H locs hw hP hD hS => ?_)
              subst hw
              have hP : va_P D vwCl (WM cI cZ cB a (sg u 0 0)) H := hP
              have hD : va_D A (WM cI cZ cB a (sg u 0 0)) := hD
              refine lv_if_eq (tgt := 85) hx hb dX9_bridge_71 (by decide) (fun c6 => ?_) (fun c6 => ?_)
              · replace hf := hf.trans (if_pos c6)
                refine lv_iconst (v := -1) hx hb dX9_bridge_85 (by decide) ?_
                exact ss_iret () hx hb hr hlocks (by rw [hf]; exact hP) (by rw [hf]; exact hD) hS (by rw [hf]) (Nat.le_of_ble_eq_true rfl) (Nat.le_of_ble_eq_true rfl) dX9_bridge_86
              · replace hf := hf.trans (if_neg c6)
                refine lv_iload hx hb dX9_bridge_74 (lv_at hl 6 rfl) ?_
                refine lv_iconst (v := 1) hx hb dX9_bridge_76 (by decide) ?_
                refine lv_bipush (v := 99) hx hb dX9_bridge_77 (by decide) ?_
                refine sf_calli (va_runS (As := [.int k6, .int 1, .int 99]) (rest := []) ⟨hx, hb, hml, hown, hts⟩ (m_isIn l D cI cZ cB cO cJ a0 H.size a  (sg u 0 0) k6 1 99 ) (cwS 3 hts gX9_bridge_X9_isIn rfl rfl rfl (by decide +kernel) ⟨Nat.le_of_ble_eq_true rfl, Nat.le_of_ble_eq_true rfl⟩) (preS_full hE hZ hA hS hP hD) rfl rfl hl.1 rfl (lv_room (Nat.le_of_ble_eq_true rfl)) dX9_bridge_79 ⟨Nat.le_of_ble_eq_true rfl, Nat.le_of_ble_eq_true rfl⟩) hP hD hS hA (fun r9 u9 H locs hw hP hD hS => ?_)
                subst hw
                have hP : va_P D vwCl (WM cI cZ cB a (sg u 0 0)) H := hP
                have hD : va_D A (WM cI cZ cB a (sg u 0 0)) := hD
                refine lv_if_ne (tgt := 87) hx hb dX9_bridge_82 (by decide) (fun c7 => ?_) (fun c7 => ?_)
                · replace hf := hf.trans (if_neg c7)
                  have i1 : vp_in (u.1 17) 8 := by rw [hI.nB.1]; exact vp_in_nI (hne hI.nB.1 hI.nB.2 c8) (by omega)
                  refine lv_aload_n hx hb dX9_bridge_87 rfl (lv_at hl 0 rfl) ?_
                  refine va_get (D := D) (ci := 10) (v := .ref (a 5)) (C := RX9) (T := TX9) (N := 45) hx hb hts im_X9_bridge_X9 hown hE.1 hP 0 rfl rfl 5 (by decide) (hts (.fieldLink RX9 13 "RiverBridgesModel" "clear" "[I") (by decide +kernel)) (fun _ h9 => h9) rfl dX9_bridge_88 ?_
                  refine lv_aload_n hx hb dX9_bridge_91 rfl (lv_at hl 0 rfl) ?_
                  refine va_get (D := D) (ci := 10) (v := .int (u.1 17)) (C := RX9) (T := TX9) (N := 45) hx hb hts im_X9_bridge_X9 hown hE.1 hP 0 rfl rfl 17 (by decide) (hts (.fieldLink RX9 119 "RiverBridgesModel" "bridges" "I") (by decide +kernel)) (fun _ h9 => h9) rfl dX9_bridge_92 ?_
                  refine lv_iload_n hx hb dX9_bridge_95 rfl (lv_at hl 1 rfl) ?_
                  refine lx_iast (g := upd (u.2.2 5) ((u.1 17).toNatClampNeg) k1) hx hb hE.1 hP hD hS 2 0 rfl rfl (by assumption) (rfl) dX9_bridge_96 (fun H locs hP hD hS => ?_)
                  have hP := va_P_eq (WM_a5 cI cZ cB a (sg u 0 0) ((u.1 17).toNatClampNeg) k1) hP
                  have hD := va_D_eq (WM_a5 cI cZ cB a (sg u 0 0) ((u.1 17).toNatClampNeg) k1) hD
                  refine lv_aload_n hx hb dX9_bridge_97 rfl (lv_at hl 0 rfl) ?_
                  refine va_get (D := D) (ci := 10) (v := .ref (a 6)) (C := RX9) (T := TX9) (N := 45) hx hb hts im_X9_bridge_X9 hown hE.1 hP 0 rfl rfl 6 (by decide) (hts (.fieldLink RX9 17 "RiverBridgesModel" "opens" "[I") (by decide +kernel)) (fun _ h9 => h9) rfl dX9_bridge_98 ?_
                  refine lv_aload_n hx hb dX9_bridge_101 rfl (lv_at hl 0 rfl) ?_
                  refine va_get (D := D) (ci := 10) (v := .int (u.1 17)) (C := RX9) (T := TX9) (N := 45) hx hb hts im_X9_bridge_X9 hown hE.1 hP 0 rfl rfl 17 (by decide) (hts (.fieldLink RX9 119 "RiverBridgesModel" "bridges" "I") (by decide +kernel)) (fun _ h9 => h9) rfl dX9_bridge_102 ?_
                  refine lv_iload_n hx hb dX9_bridge_105 rfl (lv_at hl 2 rfl) ?_
                  refine lx_iast (g := upd (u.2.2 6) ((u.1 17).toNatClampNeg) k2) hx hb hE.1 hP hD hS 3 0 rfl rfl (by assumption) (rfl) dX9_bridge_106 (fun H locs hP hD hS => ?_)
                  have hP := va_P_eq (WM_a6 cI cZ cB a (sa (sg u 0 0) 5 ((u.1 17).toNatClampNeg) k1) ((u.1 17).toNatClampNeg) k2) hP
                  have hD := va_D_eq (WM_a6 cI cZ cB a (sa (sg u 0 0) 5 ((u.1 17).toNatClampNeg) k1) ((u.1 17).toNatClampNeg) k2) hD
                  refine lv_aload_n hx hb dX9_bridge_107 rfl (lv_at hl 0 rfl) ?_
                  refine va_get (D := D) (ci := 10) (v := .ref (a 7)) (C := RX9) (T := TX9) (N := 45) hx hb hts im_X9_bridge_X9 hown hE.1 hP 0 rfl rfl 7 (by decide) (hts (.fieldLink RX9 20 "RiverBridgesModel" "shuts" "[I") (by decide +kernel)) (fun _ h9 => h9) rfl dX9_bridge_108 ?_
                  refine lv_aload_n hx hb dX9_bridge_111 rfl (lv_at hl 0 rfl) ?_
                  refine va_get (D := D) (ci := 10) (v := .int (u.1 17)) (C := RX9) (T := TX9) (N := 45) hx hb hts im_X9_bridge_X9 hown hE.1 hP 0 rfl rfl 17 (by decide) (hts (.fieldLink RX9 119 "RiverBridgesModel" "bridges" "I") (by decide +kernel)) (fun _ h9 => h9) rfl dX9_bridge_112 ?_
                  refine lv_iload_n hx hb dX9_bridge_115 rfl (lv_at hl 3 rfl) ?_
                  refine lx_iast (g := upd (u.2.2 7) ((u.1 17).toNatClampNeg) k3) hx hb hE.1 hP hD hS 4 0 rfl rfl (by assumption) (rfl) dX9_bridge_116 (fun H locs hP hD hS => ?_)
                  have hP := va_P_eq (WM_a7 cI cZ cB a (sa (sa (sg u 0 0) 5 ((u.1 17).toNatClampNeg) k1) 6 ((u.1 17).toNatClampNeg) k2) ((u.1 17).toNatClampNeg) k3) hP
                  have hD := va_D_eq (WM_a7 cI cZ cB a (sa (sa (sg u 0 0) 5 ((u.1 17).toNatClampNeg) k1) 6 ((u.1 17).toNatClampNeg) k2) ((u.1 17).toNatClampNeg) k3) hD
                  refine lv_aload_n hx hb dX9_bridge_117 rfl (lv_at hl 0 rfl) ?_
                  refine va_get (D := D) (ci := 10) (v := .ref (a 8)) (C := RX9) (T := TX9) (N := 45) hx hb hts im_X9_bridge_X9 hown hE.1 hP 0 rfl rfl 8 (by decide) (hts (.fieldLink RX9 23 "RiverBridgesModel" "way" "[I") (by decide +kernel)) (fun _ h9 => h9) rfl dX9_bridge_118 ?_
                  refine lv_aload_n hx hb dX9_bridge_121 rfl (lv_at hl 0 rfl) ?_
                  refine va_get (D := D) (ci := 10) (v := .int (u.1 17)) (C := RX9) (T := TX9) (N := 45) hx hb hts im_X9_bridge_X9 hown hE.1 hP 0 rfl rfl 17 (by decide) (hts (.fieldLink RX9 119 "RiverBridgesModel" "bridges" "I") (by decide +kernel)) (fun _ h9 => h9) rfl dX9_bridge_122 ?_
                  refine lv_iload hx hb dX9_bridge_125 (lv_at hl 4 rfl) ?_
                  refine lx_iast (g := upd (u.2.2 8) ((u.1 17).toNatClampNeg) k4) hx hb hE.1 hP hD hS 5 0 rfl rfl (by assumption) (rfl) dX9_bridge_127 (fun H locs hP hD hS => ?_)
                  have hP := va_P_eq (WM_a8 cI cZ cB a (sa (sa (sa (sg u 0 0) 5 ((u.1 17).toNatClampNeg) k1) 6 ((u.1 17).toNatClampNeg) k2) 7 ((u.1 17).toNatClampNeg) k3) ((u.1 17).toNatClampNeg) k4) hP
                  have hD := va_D_eq (WM_a8 cI cZ cB a (sa (sa (sa (sg u 0 0) 5 ((u.1 17).toNatClampNeg) k1) 6 ((u.1 17).toNatClampNeg) k2) 7 ((u.1 17).toNatClampNeg) k3) ((u.1 17).toNatClampNeg) k4) hD
                  refine lv_aload_n hx hb dX9_bridge_128 rfl (lv_at hl 0 rfl) ?_
                  refine va_get (D := D) (ci := 10) (v := .ref (a 9)) (C := RX9) (T := TX9) (N := 45) hx hb hts im_X9_bridge_X9 hown hE.1 hP 0 rfl rfl 9 (by decide) (hts (.fieldLink RX9 26 "RiverBridgesModel" "cars" "[I") (by decide +kernel)) (fun _ h9 => h9) rfl dX9_bridge_129 ?_
                  refine lv_aload_n hx hb dX9_bridge_132 rfl (lv_at hl 0 rfl) ?_
                  refine va_get (D := D) (ci := 10) (v := .int (u.1 17)) (C := RX9) (T := TX9) (N := 45) hx hb hts im_X9_bridge_X9 hown hE.1 hP 0 rfl rfl 17 (by decide) (hts (.fieldLink RX9 119 "RiverBridgesModel" "bridges" "I") (by decide +kernel)) (fun _ h9 => h9) rfl dX9_bridge_133 ?_
                  refine lv_iload hx hb dX9_bridge_136 (lv_at hl 5 rfl) ?_
                  refine lx_iast (g := upd (u.2.2 9) ((u.1 17).toNatClampNeg) k5) hx hb hE.1 hP hD hS 6 0 rfl rfl (by assumption) (rfl) dX9_bridge_138 (fun H locs hP hD hS => ?_)
                  have hP := va_P_eq (WM_a9 cI cZ cB a (sa (sa (sa (sa (sg u 0 0) 5 ((u.1 17).toNatClampNeg) k1) 6 ((u.1 17).toNatClampNeg) k2) 7 ((u.1 17).toNatClampNeg) k3) 8 ((u.1 17).toNatClampNeg) k4) ((u.1 17).toNatClampNeg) k5) hP
                  have hD := va_D_eq (WM_a9 cI cZ cB a (sa (sa (sa (sa (sg u 0 0) 5 ((u.1 17).toNatClampNeg) k1) 6 ((u.1 17).toNatClampNeg) k2) 7 ((u.1 17).toNatClampNeg) k3) 8 ((u.1 17).toNatClampNeg) k4) ((u.1 17).toNatClampNeg) k5) hD
                  refine lv_aload_n hx hb dX9_bridge_139 rfl (lv_at hl 0 rfl) ?_
                  refine va_get (D := D) (ci := 10) (v := .ref (a 10)) (C := RX9) (T := TX9) (N := 45) hx hb hts im_X9_bridge_X9 hown hE.1 hP 0 rfl rfl 10 (by decide) (hts (.fieldLink RX9 29 "RiverBridgesModel" "flow" "[I") (by decide +kernel)) (fun _ h9 => h9) rfl dX9_bridge_140 ?_
                  refine lv_aload_n hx hb dX9_bridge_143 rfl (lv_at hl 0 rfl) ?_
                  refine va_get (D := D) (ci := 10) (v := .int (u.1 17)) (C := RX9) (T := TX9) (N := 45) hx hb hts im_X9_bridge_X9 hown hE.1 hP 0 rfl rfl 17 (by decide) (hts (.fieldLink RX9 119 "RiverBridgesModel" "bridges" "I") (by decide +kernel)) (fun _ h9 => h9) rfl dX9_bridge_144 ?_
                  refine lv_iload hx hb dX9_bridge_147 (lv_at hl 6 rfl) ?_
                  refine lx_iast (g := upd (u.2.2 10) ((u.1 17).toNatClampNeg) k6) hx hb hE.1 hP hD hS 7 0 rfl rfl (by assumption) (rfl) dX9_bridge_149 (fun H locs hP hD hS => ?_)
                  have hP := va_P_eq (WM_a10 cI cZ cB a (sa (sa (sa (sa (sa (sg u 0 0) 5 ((u.1 17).toNatClampNeg) k1) 6 ((u.1 17).toNatClampNeg) k2) 7 ((u.1 17).toNatClampNeg) k3) 8 ((u.1 17).toNatClampNeg) k4) 9 ((u.1 17).toNatClampNeg) k5) ((u.1 17).toNatClampNeg) k6) hP
                  have hD := va_D_eq (WM_a10 cI cZ cB a (sa (sa (sa (sa (sa (sg u 0 0) 5 ((u.1 17).toNatClampNeg) k1) 6 ((u.1 17).toNatClampNeg) k2) 7 ((u.1 17).toNatClampNeg) k3) 8 ((u.1 17).toNatClampNeg) k4) 9 ((u.1 17).toNatClampNeg) k5) ((u.1 17).toNatClampNeg) k6) hD
                  refine lv_aload_n hx hb dX9_bridge_150 rfl (lv_at hl 0 rfl) ?_
                  refine va_get (D := D) (ci := 10) (v := .ref (a 12)) (C := RX9) (T := TX9) (N := 45) hx hb hts im_X9_bridge_X9 hown hE.1 hP 0 rfl rfl 12 (by decide) (hts (.fieldLink RX9 35 "RiverBridgesModel" "until" "[I") (by decide +kernel)) (fun _ h9 => h9) rfl dX9_bridge_151 ?_
                  refine lv_aload_n hx hb dX9_bridge_154 rfl (lv_at hl 0 rfl) ?_
                  refine va_get (D := D) (ci := 10) (v := .int (u.1 17)) (C := RX9) (T := TX9) (N := 45) hx hb hts im_X9_bridge_X9 hown hE.1 hP 0 rfl rfl 17 (by decide) (hts (.fieldLink RX9 119 "RiverBridgesModel" "bridges" "I") (by decide +kernel)) (fun _ h9 => h9) rfl dX9_bridge_155 ?_
                  refine lv_iconst (v := -1) hx hb dX9_bridge_158 (by decide) ?_
                  refine lx_iast (g := upd (u.2.2 12) ((u.1 17).toNatClampNeg) (-1)) hx hb hE.1 hP hD hS 9 0 rfl rfl (by assumption) (rfl) dX9_bridge_159 (fun H locs hP hD hS => ?_)
                  have hP := va_P_eq (WM_a12 cI cZ cB a (sa (sa (sa (sa (sa (sa (sg u 0 0) 5 ((u.1 17).toNatClampNeg) k1) 6 ((u.1 17).toNatClampNeg) k2) 7 ((u.1 17).toNatClampNeg) k3) 8 ((u.1 17).toNatClampNeg) k4) 9 ((u.1 17).toNatClampNeg) k5) 10 ((u.1 17).toNatClampNeg) k6) ((u.1 17).toNatClampNeg) (-1)) hP
                  have hD := va_D_eq (WM_a12 cI cZ cB a (sa (sa (sa (sa (sa (sa (sg u 0 0) 5 ((u.1 17).toNatClampNeg) k1) 6 ((u.1 17).toNatClampNeg) k2) 7 ((u.1 17).toNatClampNeg) k3) 8 ((u.1 17).toNatClampNeg) k4) 9 ((u.1 17).toNatClampNeg) k5) 10 ((u.1 17).toNatClampNeg) k6) ((u.1 17).toNatClampNeg) (-1)) hD
                  refine lv_aload_n hx hb dX9_bridge_160 rfl (lv_at hl 0 rfl) ?_
                  refine lv_dup hx hb dX9_bridge_161 rfl ?_
                  refine va_get (D := D) (ci := 10) (v := .int (u.1 17)) (C := RX9) (T := TX9) (N := 45) hx hb hts im_X9_bridge_X9 hown hE.1 hP 0 rfl rfl 17 (by decide) (hts (.fieldLink RX9 119 "RiverBridgesModel" "bridges" "I") (by decide +kernel)) (fun _ h9 => h9) rfl dX9_bridge_162 ?_
                  refine lv_iconst (v := 1) hx hb dX9_bridge_165 (by decide) ?_
                  refine lx_iadd (v := (u.1 17) + 1) hx hb (rfl) dX9_bridge_166 ?_
                  refine va_put (D := D) (ci := 10) (v := .int ((u.1 17) + 1)) (ty := .int) (C := RX9) (T := TX9) (N := 45) hx hb hts im_X9_bridge_X9 tyX9 tyX9_ok nmX9 hown hE.1 hP hD hS 0 rfl rfl 17 (by decide) (hts (.fieldLink RX9 119 "RiverBridgesModel" "bridges" "I") (by decide +kernel)) (fun _ h9 => h9) rfl (by decide +kernel) rfl rfl (Nat.le_of_ble_eq_true rfl) dX9_bridge_167 (fun H locs hP hD hS => ?_)
                  have hP := va_P_eq (WM_g17 cI cZ cB a (sa (sa (sa (sa (sa (sa (sa (sg u 0 0) 5 ((u.1 17).toNatClampNeg) k1) 6 ((u.1 17).toNatClampNeg) k2) 7 ((u.1 17).toNatClampNeg) k3) 8 ((u.1 17).toNatClampNeg) k4) 9 ((u.1 17).toNatClampNeg) k5) 10 ((u.1 17).toNatClampNeg) k6) 12 ((u.1 17).toNatClampNeg) (-1)) ((u.1 17) + 1)) hP
                  have hD := va_D_eq (WM_g17 cI cZ cB a (sa (sa (sa (sa (sa (sa (sa (sg u 0 0) 5 ((u.1 17).toNatClampNeg) k1) 6 ((u.1 17).toNatClampNeg) k2) 7 ((u.1 17).toNatClampNeg) k3) 8 ((u.1 17).toNatClampNeg) k4) 9 ((u.1 17).toNatClampNeg) k5) 10 ((u.1 17).toNatClampNeg) k6) 12 ((u.1 17).toNatClampNeg) (-1)) ((u.1 17) + 1)) hD
                  refine lv_aload_n hx hb dX9_bridge_170 rfl (lv_at hl 0 rfl) ?_
                  refine va_get (D := D) (ci := 10) (v := .int ((u.1 17) + 1)) (C := RX9) (T := TX9) (N := 45) hx hb hts im_X9_bridge_X9 hown hE.1 hP 0 rfl rfl 17 (by decide) (hts (.fieldLink RX9 119 "RiverBridgesModel" "bridges" "I") (by decide +kernel)) (fun _ h9 => h9) rfl dX9_bridge_171 ?_
                  refine lv_iconst (v := 1) hx hb dX9_bridge_174 (by decide) ?_
                  refine lx_isub (v := ((u.1 17) + 1) - 1) hx hb (rfl) dX9_bridge_175 ?_
                  exact ss_iret () hx hb hr hlocks (by rw [hf]; exact hP) (by rw [hf]; exact hD) hS (by rw [hf]) (Nat.le_of_ble_eq_true rfl) (Nat.le_of_ble_eq_true rfl) dX9_bridge_176
                · replace hf := hf.trans (if_pos c7)
                  refine lv_iconst (v := -1) hx hb dX9_bridge_85 (by decide) ?_
                  exact ss_iret () hx hb hr hlocks (by rw [hf]; exact hP) (by rw [hf]; exact hD) hS (by rw [hf]) (Nat.le_of_ble_eq_true rfl) (Nat.le_of_ble_eq_true rfl) dX9_bridge_86
def f_keeper (u : RS) (b : Int32) : Int32 × RS := (if u.1 44 = 4 then (-1, (sg u 0 0)) else (if f_isBridge (sg u 0 0) b = 0 then (-1, (sg u 0 0)) else (if u.1 18 = 0 then (((u.1 44) + 1) - 1, (sg (sa (sa (sa (sg u 0 0) 41 ((u.1 44).toNatClampNeg) b) 42 ((u.1 44).toNatClampNeg) (-1)) 43 ((u.1 44).toNatClampNeg) (-1)) 44 ((u.1 44) + 1))) else (-1, (sg u 0 0)))))
theorem f_keeper_s (u : RS) (b : Int32) : f_keeper u b = (if u.1 44 = 4 then (-1, (sg u 0 0)) else (if f_isBridge (sg u 0 0) b = 0 then (-1, (sg u 0 0)) else (if u.1 18 = 0 then (((u.1 44) + 1) - 1, (sg (sa (sa (sa (sg u 0 0) 41 ((u.1 44).toNatClampNeg) b) 42 ((u.1 44).toNatClampNeg) (-1)) 43 ((u.1 44).toNatClampNeg) (-1)) 44 ((u.1 44) + 1))) else (-1, (sg u 0 0))))) := rfl
theorem im_X9_keeper_X9 : ∀ w ∈ wsX90, w ∈ wsX9_keeper := fun _ h => List.mem_cons_of_mem _ (List.mem_append_right _ h)
set_option maxHeartbeats 400000 in
set_option maxRecDepth 100000 in
theorem m_keeper (l : Launch) (D : va_G) (cI cZ cB cO cJ : ClassId) (a0 sz : Nat) (a : Nat → Nat) (nB nS nK mi ln : Nat) (u : RS) (b : Int32) (hI : MI nB nS nK mi ln u) : Met l yX9_keeper wsX9_keeper ({ frames := 1, cells := 0, slots := 0, locals := 21 }) (Pcs D cI cZ cB cO cJ a0 [.ref (a 45), .int b] (WM cI cZ cB a u) sz) (va_Qi (fun (r : Int32) (_ : Unit) => r = (f_keeper u b).1) (fun (_ : Unit) t => va_P D vwCl (WM cI cZ cB a (f_keeper u b).2) t.heap ∧ va_D (va_A (WM cI cZ cB a u) sz) (WM cI cZ cB a (f_keeper u b).2)) (va_A (WM cI cZ cB a u) sz)) 0 0 (va_A (WM cI cZ cB a u) sz) := by
  refine Met.ofW (cc := cX9_keeper) (maxL := 2) (ret := (some .int)) (by decide) rfl ?_
  intro p e s m args below meth c s₁ B hml hv
  obtain ⟨rfl, hsz, hP, hE, hD0, hZ⟩ := hv
  have hx := B.exec
  have hb := B.bytes
  have hr := B.returns
  have hts := atoms_spec (ws := wsX9_keeper) B.pre
  have hown : s.vm.findClass RX9 = some m.cls := findClass_of_methodNamed B.named
  have hlocks := B.notSynchronized
  subst hsz
  have hD := hD0.self (sz := s.heap.size)
  generalize hAe : va_A (WM cI cZ cB a u) s.heap.size = A at hD hZ ⊢
  have hA : ∀ q : Nat, s.heap.size ≤ q → A q := fun q h => by rw [← hAe]; exact Or.inr h
  clear hAe
  have hS : va_S A s.heap s.heap [] := va_S.rf
  have hP : va_P D vwCl (WM cI cZ cB a u) s.heap := hP
  have hl := lv_entry ([.ref (a 45), .int b]) (n := 2) (Nat.le_of_ble_eq_true rfl)
  rw [lg_entry_eq]
  generalize (lg_sl ([.ref (a 45), .int b]) ++ List.replicate (2 - (lg_sl ([.ref (a 45), .int b])).length) Slot.unset).toArray = ls at hl ⊢
  have hl : lv_has ls 2 [(0, .ref (a 45)), (1, .int b)] := hl
  have hf := f_keeper_s u b
  refine lv_aload_n hx hb dX9_keeper_0 rfl (lv_at hl 0 rfl) ?_
  refine lv_iconst (v := 0) hx hb dX9_keeper_1 (by decide) ?_
  refine va_put (D := D) (ci := 10) (v := .int 0) (ty := .int) (C := RX9) (T := TX9) (N := 45) hx hb hts im_X9_keeper_X9 tyX9 tyX9_ok nmX9 hown hE.1 hP hD hS 0 rfl rfl 0 (by decide) (hts (.fieldLink RX9 103 "RiverBridgesModel" "thrown" "I") (by decide +kernel)) (fun _ h9 => h9) rfl (by decide +kernel) rfl rfl (Nat.le_of_ble_eq_true rfl) dX9_keeper_2 (fun H locs hP hD hS => ?_)
  have hP := va_P_eq (WM_g0 cI cZ cB a u 0) hP
  have hD := va_D_eq (WM_g0 cI cZ cB a u 0) hD
  refine lv_aload_n hx hb dX9_keeper_5 rfl (lv_at hl 0 rfl) ?_
  refine va_get (D := D) (ci := 10) (v := .int (u.1 44)) (C := RX9) (T := TX9) (N := 45) hx hb hts im_X9_keeper_X9 hown hE.1 hP 0 rfl rfl 44 (by decide) (hts (.fieldLink RX9 215 "RiverBridgesModel" "keepers" "I") (by decide +kernel)) (fun _ h9 => h9) rfl dX9_keeper_6 ?_
  refine lv_iconst (v := 4) hx hb dX9_keeper_9 (by decide) ?_
  refine lv_icmp_eq (tgt := 28) hx hb dX9_keeper_10 (by decide) (fun c8 => ?_) (fun c8 => ?_)
  · replace hf := hf.trans (if_pos c8)
    refine lv_iconst (v := -1) hx hb dX9_keeper_28 (by decide) ?_
    exact ss_iret () hx hb hr hlocks (by rw [hf]; exact hP) (by rw [hf]; exact hD) hS (by rw [hf]) (Nat.le_of_ble_eq_true rfl) (Nat.le_of_ble_eq_true rfl) dX9_keeper_29
  · replace hf := hf.trans (if_neg c8)
    refine lv_aload_n hx hb dX9_keeper_13 rfl (lv_at hl 0 rfl) ?_
    refine lv_iload_n hx hb dX9_keeper_14 rfl (lv_at hl 1 rfl) ?_
    refine sf_calli (va_runV (As := [.int b]) (rest := []) ⟨hx, hb, hml, hown, hts⟩ (m_isBridge l D cI cZ cB cO cJ a0 H.size a  (sg u 0 0) b ) (cwV 1 hts gX9_keeper_X9_isBridge rfl rfl rfl (by decide +kernel) ⟨Nat.le_of_ble_eq_true rfl, Nat.le_of_ble_eq_true rfl⟩) (preV_full hE hZ hA hS hP hD (va_recv hE.1 hP (ci := 10) (q0 := 0) rfl rfl)) rfl rfl hl.1 rfl (lv_room (Nat.le_of_ble_eq_true rfl)) dX9_keeper_15 ⟨Nat.le_of_ble_eq_true rfl, Nat.le_of_ble_eq_true rfl⟩) hP hD hS hA (fun r9 u9 H locs hw hP hD hS => ?_)
    subst hw
    have hP : va_P D vwCl (WM cI cZ cB a (sg u 0 0)) H := hP
    have hD : va_D A (WM cI cZ cB a (sg u 0 0)) := hD
    refine lv_if_eq (tgt := 28) hx hb dX9_keeper_18 (by decide) (fun c1 => ?_) (fun c1 => ?_)
    · replace hf := hf.trans (if_pos c1)
      refine lv_iconst (v := -1) hx hb dX9_keeper_28 (by decide) ?_
      exact ss_iret () hx hb hr hlocks (by rw [hf]; exact hP) (by rw [hf]; exact hD) hS (by rw [hf]) (Nat.le_of_ble_eq_true rfl) (Nat.le_of_ble_eq_true rfl) dX9_keeper_29
    · replace hf := hf.trans (if_neg c1)
      refine lv_aload_n hx hb dX9_keeper_21 rfl (lv_at hl 0 rfl) ?_
      refine va_get (D := D) (ci := 10) (v := .int (u.1 18)) (C := RX9) (T := TX9) (N := 45) hx hb hts im_X9_keeper_X9 hown hE.1 hP 0 rfl rfl 18 (by decide) (hts (.fieldLink RX9 122 "RiverBridgesModel" "minute" "I") (by decide +kernel)) (fun _ h9 => h9) rfl dX9_keeper_22 ?_
      refine lv_if_eq (tgt := 30) hx hb dX9_keeper_25 (by decide) (fun c2 => ?_) (fun c2 => ?_)
      · replace hf := hf.trans (if_pos c2)
        have i1 : vp_in (u.1 44) 4 := by rw [hI.nK.1]; exact vp_in_nI (hne hI.nK.1 hI.nK.2 c8) (by omega)
        refine lv_aload_n hx hb dX9_keeper_30 rfl (lv_at hl 0 rfl) ?_
        refine va_get (D := D) (ci := 10) (v := .ref (a 41)) (C := RX9) (T := TX9) (N := 45) hx hb hts im_X9_keeper_X9 hown hE.1 hP 0 rfl rfl 41 (by decide) (hts (.fieldLink RX9 94 "RiverBridgesModel" "keeperAt" "[I") (by decide +kernel)) (fun _ h9 => h9) rfl dX9_keeper_31 ?_
        refine lv_aload_n hx hb dX9_keeper_34 rfl (lv_at hl 0 rfl) ?_
        refine va_get (D := D) (ci := 10) (v := .int (u.1 44)) (C := RX9) (T := TX9) (N := 45) hx hb hts im_X9_keeper_X9 hown hE.1 hP 0 rfl rfl 44 (by decide) (hts (.fieldLink RX9 215 "RiverBridgesModel" "keepers" "I") (by decide +kernel)) (fun _ h9 => h9) rfl dX9_keeper_35 ?_
        refine lv_iload_n hx hb dX9_keeper_38 rfl (lv_at hl 1 rfl) ?_
        refine lx_iast (g := upd (u.2.2 41) ((u.1 44).toNatClampNeg) b) hx hb hE.1 hP hD hS 27 0 rfl rfl (by assumption) (rfl) dX9_keeper_39 (fun H locs hP hD hS => ?_)
        have hP := va_P_eq (WM_a41 cI cZ cB a (sg u 0 0) ((u.1 44).toNatClampNeg) b) hP
        have hD := va_D_eq (WM_a41 cI cZ cB a (sg u 0 0) ((u.1 44).toNatClampNeg) b) hD
        refine lv_aload_n hx hb dX9_keeper_40 rfl (lv_at hl 0 rfl) ?_
        refine va_get (D := D) (ci := 10) (v := .ref (a 42)) (C := RX9) (T := TX9) (N := 45) hx hb hts im_X9_keeper_X9 hown hE.1 hP 0 rfl rfl 42 (by decide) (hts (.fieldLink RX9 97 "RiverBridgesModel" "keeperTo" "[I") (by decide +kernel)) (fun _ h9 => h9) rfl dX9_keeper_41 ?_
        refine lv_aload_n hx hb dX9_keeper_44 rfl (lv_at hl 0 rfl) ?_
        refine va_get (D := D) (ci := 10) (v := .int (u.1 44)) (C := RX9) (T := TX9) (N := 45) hx hb hts im_X9_keeper_X9 hown hE.1 hP 0 rfl rfl 44 (by decide) (hts (.fieldLink RX9 215 "RiverBridgesModel" "keepers" "I") (by decide +kernel)) (fun _ h9 => h9) rfl dX9_keeper_45 ?_
        refine lv_iconst (v := -1) hx hb dX9_keeper_48 (by decide) ?_
        refine lx_iast (g := upd (u.2.2 42) ((u.1 44).toNatClampNeg) (-1)) hx hb hE.1 hP hD hS 28 0 rfl rfl (by assumption) (rfl) dX9_keeper_49 (fun H locs hP hD hS => ?_)
        have hP := va_P_eq (WM_a42 cI cZ cB a (sa (sg u 0 0) 41 ((u.1 44).toNatClampNeg) b) ((u.1 44).toNatClampNeg) (-1)) hP
        have hD := va_D_eq (WM_a42 cI cZ cB a (sa (sg u 0 0) 41 ((u.1 44).toNatClampNeg) b) ((u.1 44).toNatClampNeg) (-1)) hD
        refine lv_aload_n hx hb dX9_keeper_50 rfl (lv_at hl 0 rfl) ?_
        refine va_get (D := D) (ci := 10) (v := .ref (a 43)) (C := RX9) (T := TX9) (N := 45) hx hb hts im_X9_keeper_X9 hown hE.1 hP 0 rfl rfl 43 (by decide) (hts (.fieldLink RX9 100 "RiverBridgesModel" "keeperDue" "[I") (by decide +kernel)) (fun _ h9 => h9) rfl dX9_keeper_51 ?_
        refine lv_aload_n hx hb dX9_keeper_54 rfl (lv_at hl 0 rfl) ?_
        refine va_get (D := D) (ci := 10) (v := .int (u.1 44)) (C := RX9) (T := TX9) (N := 45) hx hb hts im_X9_keeper_X9 hown hE.1 hP 0 rfl rfl 44 (by decide) (hts (.fieldLink RX9 215 "RiverBridgesModel" "keepers" "I") (by decide +kernel)) (fun _ h9 => h9) rfl dX9_keeper_55 ?_
        refine lv_iconst (v := -1) hx hb dX9_keeper_58 (by decide) ?_
        refine lx_iast (g := upd (u.2.2 43) ((u.1 44).toNatClampNeg) (-1)) hx hb hE.1 hP hD hS 29 0 rfl rfl (by assumption) (rfl) dX9_keeper_59 (fun H locs hP hD hS => ?_)
        have hP := va_P_eq (WM_a43 cI cZ cB a (sa (sa (sg u 0 0) 41 ((u.1 44).toNatClampNeg) b) 42 ((u.1 44).toNatClampNeg) (-1)) ((u.1 44).toNatClampNeg) (-1)) hP
        have hD := va_D_eq (WM_a43 cI cZ cB a (sa (sa (sg u 0 0) 41 ((u.1 44).toNatClampNeg) b) 42 ((u.1 44).toNatClampNeg) (-1)) ((u.1 44).toNatClampNeg) (-1)) hD
        refine lv_aload_n hx hb dX9_keeper_60 rfl (lv_at hl 0 rfl) ?_
        refine lv_dup hx hb dX9_keeper_61 rfl ?_
        refine va_get (D := D) (ci := 10) (v := .int (u.1 44)) (C := RX9) (T := TX9) (N := 45) hx hb hts im_X9_keeper_X9 hown hE.1 hP 0 rfl rfl 44 (by decide) (hts (.fieldLink RX9 215 "RiverBridgesModel" "keepers" "I") (by decide +kernel)) (fun _ h9 => h9) rfl dX9_keeper_62 ?_
        refine lv_iconst (v := 1) hx hb dX9_keeper_65 (by decide) ?_
        refine lx_iadd (v := (u.1 44) + 1) hx hb (rfl) dX9_keeper_66 ?_
        refine va_put (D := D) (ci := 10) (v := .int ((u.1 44) + 1)) (ty := .int) (C := RX9) (T := TX9) (N := 45) hx hb hts im_X9_keeper_X9 tyX9 tyX9_ok nmX9 hown hE.1 hP hD hS 0 rfl rfl 44 (by decide) (hts (.fieldLink RX9 215 "RiverBridgesModel" "keepers" "I") (by decide +kernel)) (fun _ h9 => h9) rfl (by decide +kernel) rfl rfl (Nat.le_of_ble_eq_true rfl) dX9_keeper_67 (fun H locs hP hD hS => ?_)
        have hP := va_P_eq (WM_g44 cI cZ cB a (sa (sa (sa (sg u 0 0) 41 ((u.1 44).toNatClampNeg) b) 42 ((u.1 44).toNatClampNeg) (-1)) 43 ((u.1 44).toNatClampNeg) (-1)) ((u.1 44) + 1)) hP
        have hD := va_D_eq (WM_g44 cI cZ cB a (sa (sa (sa (sg u 0 0) 41 ((u.1 44).toNatClampNeg) b) 42 ((u.1 44).toNatClampNeg) (-1)) 43 ((u.1 44).toNatClampNeg) (-1)) ((u.1 44) + 1)) hD
        refine lv_aload_n hx hb dX9_keeper_70 rfl (lv_at hl 0 rfl) ?_
        refine va_get (D := D) (ci := 10) (v := .int ((u.1 44) + 1)) (C := RX9) (T := TX9) (N := 45) hx hb hts im_X9_keeper_X9 hown hE.1 hP 0 rfl rfl 44 (by decide) (hts (.fieldLink RX9 215 "RiverBridgesModel" "keepers" "I") (by decide +kernel)) (fun _ h9 => h9) rfl dX9_keeper_71 ?_
        refine lv_iconst (v := 1) hx hb dX9_keeper_74 (by decide) ?_
        refine lx_isub (v := ((u.1 44) + 1) - 1) hx hb (rfl) dX9_keeper_75 ?_
        exact ss_iret () hx hb hr hlocks (by rw [hf]; exact hP) (by rw [hf]; exact hD) hS (by rw [hf]) (Nat.le_of_ble_eq_true rfl) (Nat.le_of_ble_eq_true rfl) dX9_keeper_76
      · replace hf := hf.trans (if_neg c2)
        refine lv_iconst (v := -1) hx hb dX9_keeper_28 (by decide) ?_
        exact ss_iret () hx hb hr hlocks (by rw [hf]; exact hP) (by rw [hf]; exact hD) hS (by rw [hf]) (Nat.le_of_ble_eq_true rfl) (Nat.le_of_ble_eq_true rfl) dX9_keeper_29
def lp_ship  : Nat → RS → Nat → RS
  | 0, u1, k => u1
  | n + 1, u1, k => (if 8 ≤ nI k then u1 else (lp_ship  n (sa u1 38 (((8 * (u1.1 40)) + (nI k)).toNatClampNeg) (-1)) (k + 1)))
theorem lp_ship_s  (n : Nat) (u1 : RS) (k : Nat) : lp_ship  (n + 1) u1 k = (if 8 ≤ nI k then u1 else (lp_ship  n (sa u1 38 (((8 * (u1.1 40)) + (nI k)).toNatClampNeg) (-1)) (k + 1))) := rfl
def f_ship (u : RS) (hg : Int32) (up : Int32) (cm : Int32) : Int32 × RS := (if u.1 40 = 40 then (-1, (sg u 0 0)) else (if u.1 17 = 0 then (-1, (sg u 0 0)) else (if f_isIn (sg u 0 0) hg 0 500 = 0 then (-1, (sg u 0 0)) else (if f_isIn (sg u 0 0) cm (u.1 18) 1440 = 0 then (-1, (sg u 0 0)) else ((((lp_ship  9 (sa (sa (sa (sa (sg u 0 0) 31 ((u.1 40).toNatClampNeg) hg) 39 ((u.1 40).toNatClampNeg) (vp_nar .boolean up)) 34 ((u.1 40).toNatClampNeg) cm) 37 ((u.1 40).toNatClampNeg) (-1)) 0).1 40) + 1) - 1, (sg (lp_ship  9 (sa (sa (sa (sa (sg u 0 0) 31 ((u.1 40).toNatClampNeg) hg) 39 ((u.1 40).toNatClampNeg) (vp_nar .boolean up)) 34 ((u.1 40).toNatClampNeg) cm) 37 ((u.1 40).toNatClampNeg) (-1)) 0) 40 (((lp_ship  9 (sa (sa (sa (sa (sg u 0 0) 31 ((u.1 40).toNatClampNeg) hg) 39 ((u.1 40).toNatClampNeg) (vp_nar .boolean up)) 34 ((u.1 40).toNatClampNeg) cm) 37 ((u.1 40).toNatClampNeg) (-1)) 0).1 40) + 1)))))))
theorem f_ship_s (u : RS) (hg : Int32) (up : Int32) (cm : Int32) : f_ship u hg up cm = (if u.1 40 = 40 then (-1, (sg u 0 0)) else (if u.1 17 = 0 then (-1, (sg u 0 0)) else (if f_isIn (sg u 0 0) hg 0 500 = 0 then (-1, (sg u 0 0)) else (if f_isIn (sg u 0 0) cm (u.1 18) 1440 = 0 then (-1, (sg u 0 0)) else ((((lp_ship  9 (sa (sa (sa (sa (sg u 0 0) 31 ((u.1 40).toNatClampNeg) hg) 39 ((u.1 40).toNatClampNeg) (vp_nar .boolean up)) 34 ((u.1 40).toNatClampNeg) cm) 37 ((u.1 40).toNatClampNeg) (-1)) 0).1 40) + 1) - 1, (sg (lp_ship  9 (sa (sa (sa (sa (sg u 0 0) 31 ((u.1 40).toNatClampNeg) hg) 39 ((u.1 40).toNatClampNeg) (vp_nar .boolean up)) 34 ((u.1 40).toNatClampNeg) cm) 37 ((u.1 40).toNatClampNeg) (-1)) 0) 40 (((lp_ship  9 (sa (sa (sa (sa (sg u 0 0) 31 ((u.1 40).toNatClampNeg) hg) 39 ((u.1 40).toNatClampNeg) (vp_nar .boolean up)) 34 ((u.1 40).toNatClampNeg) cm) 37 ((u.1 40).toNatClampNeg) (-1)) 0).1 40) + 1))))))) := rfl
theorem im_X9_ship_X9 : ∀ w ∈ wsX90, w ∈ wsX9_ship := fun _ h => List.mem_cons_of_mem _ (List.mem_append_right _ h)
set_option maxHeartbeats 400000 in
set_option maxRecDepth 100000 in
theorem m_ship (l : Launch) (D : va_G) (cI cZ cB cO cJ : ClassId) (a0 sz : Nat) (a : Nat → Nat) (nB nS nK mi ln : Nat) (u : RS) (hg : Int32) (up : Int32) (cm : Int32) (hI : MI nB nS nK mi ln u) : Met l yX9_ship wsX9_ship ({ frames := 1, cells := 0, slots := 0, locals := 22 }) (Pcs D cI cZ cB cO cJ a0 [.ref (a 45), .int hg, .int up, .int cm] (WM cI cZ cB a u) sz) (va_Qi (fun (r : Int32) (_ : Unit) => r = (f_ship u hg up cm).1) (fun (_ : Unit) t => va_P D vwCl (WM cI cZ cB a (f_ship u hg up cm).2) t.heap ∧ va_D (va_A (WM cI cZ cB a u) sz) (WM cI cZ cB a (f_ship u hg up cm).2)) (va_A (WM cI cZ cB a u) sz)) 0 0 (va_A (WM cI cZ cB a u) sz) := by
  refine Met.ofW (cc := cX9_ship) (maxL := 5) (ret := (some .int)) (by decide) rfl ?_
  intro p e s m args below meth c s₁ B hml hv
  obtain ⟨rfl, hsz, hP, hE, hD0, hZ⟩ := hv
  have hx := B.exec
  have hb := B.bytes
  have hr := B.returns
  have hts := atoms_spec (ws := wsX9_ship) B.pre
  have hown : s.vm.findClass RX9 = some m.cls := findClass_of_methodNamed B.named
  have hlocks := B.notSynchronized
  subst hsz
  have hD := hD0.self (sz := s.heap.size)
  generalize hAe : va_A (WM cI cZ cB a u) s.heap.size = A at hD hZ ⊢
  have hA : ∀ q : Nat, s.heap.size ≤ q → A q := fun q h => by rw [← hAe]; exact Or.inr h
  clear hAe
  have hS : va_S A s.heap s.heap [] := va_S.rf
  have hP : va_P D vwCl (WM cI cZ cB a u) s.heap := hP
  have hl := lv_entry ([.ref (a 45), .int hg, .int up, .int cm]) (n := 5) (Nat.le_of_ble_eq_true rfl)
  rw [lg_entry_eq]
  generalize (lg_sl ([.ref (a 45), .int hg, .int up, .int cm]) ++ List.replicate (5 - (lg_sl ([.ref (a 45), .int hg, .int up, .int cm])).length) Slot.unset).toArray = ls at hl ⊢
  have hl : lv_has ls 5 [(0, .ref (a 45)), (1, .int hg), (2, .int up), (3, .int cm)] := hl
  have hf := f_ship_s u hg up cm
  refine lv_aload_n hx hb dX9_ship_0 rfl (lv_at hl 0 rfl) ?_
  refine lv_iconst (v := 0) hx hb dX9_ship_1 (by decide) ?_
  refine va_put (D := D) (ci := 10) (v := .int 0) (ty := .int) (C := RX9) (T := TX9) (N := 45) hx hb hts im_X9_ship_X9 tyX9 tyX9_ok nmX9 hown hE.1 hP hD hS 0 rfl rfl 0 (by decide) (hts (.fieldLink RX9 103 "RiverBridgesModel" "thrown" "I") (by decide +kernel)) (fun _ h9 => h9) rfl (by decide +kernel) rfl rfl (Nat.le_of_ble_eq_true rfl) dX9_ship_2 (fun H locs hP hD hS => ?_)
  have hP := va_P_eq (WM_g0 cI cZ cB a u 0) hP
  have hD := va_D_eq (WM_g0 cI cZ cB a u 0) hD
  refine lv_aload_n hx hb dX9_ship_5 rfl (lv_at hl 0 rfl) ?_
  refine va_get (D := D) (ci := 10) (v := .int (u.1 40)) (C := RX9) (T := TX9) (N := 45) hx hb hts im_X9_ship_X9 hown hE.1 hP 0 rfl rfl 40 (by decide) (hts (.fieldLink RX9 208 "RiverBridgesModel" "ships" "I") (by decide +kernel)) (fun _ h9 => h9) rfl dX9_ship_6 ?_
  refine lv_bipush (v := 40) hx hb dX9_ship_9 (by decide) ?_
  refine lv_icmp_eq (tgt := 46) hx hb dX9_ship_11 (by decide) (fun c8 => ?_) (fun c8 => ?_)
  · replace hf := hf.trans (if_pos c8)
    refine lv_iconst (v := -1) hx hb dX9_ship_46 (by decide) ?_
    exact ss_iret () hx hb hr hlocks (by rw [hf]; exact hP) (by rw [hf]; exact hD) hS (by rw [hf]) (Nat.le_of_ble_eq_true rfl) (Nat.le_of_ble_eq_true rfl) dX9_ship_47
  · replace hf := hf.trans (if_neg c8)
    refine lv_aload_n hx hb dX9_ship_14 rfl (lv_at hl 0 rfl) ?_
    refine va_get (D := D) (ci := 10) (v := .int (u.1 17)) (C := RX9) (T := TX9) (N := 45) hx hb hts im_X9_ship_X9 hown hE.1 hP 0 rfl rfl 17 (by decide) (hts (.fieldLink RX9 119 "RiverBridgesModel" "bridges" "I") (by decide +kernel)) (fun _ h9 => h9) rfl dX9_ship_15 ?_
    refine lv_if_eq (tgt := 46) hx hb dX9_ship_18 (by decide) (fun c1 => ?_) (fun c1 => ?_)
    · replace hf := hf.trans (if_pos c1)
      refine lv_iconst (v := -1) hx hb dX9_ship_46 (by decide) ?_
      exact ss_iret () hx hb hr hlocks (by rw [hf]; exact hP) (by rw [hf]; exact hD) hS (by rw [hf]) (Nat.le_of_ble_eq_true rfl) (Nat.le_of_ble_eq_true rfl) dX9_ship_47
    · replace hf := hf.trans (if_neg c1)
      refine lv_iload_n hx hb dX9_ship_21 rfl (lv_at hl 1 rfl) ?_
      refine lv_iconst (v := 0) hx hb dX9_ship_22 (by decide) ?_
      refine lv_sipush (v := 500) hx hb dX9_ship_23 (by decide) ?_
      refine sf_calli (va_runS (As := [.int hg, .int 0, .int 500]) (rest := []) ⟨hx, hb, hml, hown, hts⟩ (m_isIn l D cI cZ cB cO cJ a0 H.size a  (sg u 0 0) hg 0 500 ) (cwS 3 hts gX9_ship_X9_isIn rfl rfl rfl (by decide +kernel) ⟨Nat.le_of_ble_eq_true rfl, Nat.le_of_ble_eq_true rfl⟩) (preS_full hE hZ hA hS hP hD) rfl rfl hl.1 rfl (lv_room (Nat.le_of_ble_eq_true rfl)) dX9_ship_26 ⟨Nat.le_of_ble_eq_true rfl, Nat.le_of_ble_eq_true rfl⟩) hP hD hS hA (fun r9 u9 H locs hw hP hD hS => ?_)
      subst hw
      have hP : va_P D vwCl (WM cI cZ cB a (sg u 0 0)) H := hP
      have hD : va_D A (WM cI cZ cB a (sg u 0 0)) := hD
      refine lv_if_eq (tgt := 46) hx hb dX9_ship_29 (by decide) (fun c2 => ?_) (fun c2 => ?_)
      · replace hf := hf.trans (if_pos c2)
        refine lv_iconst (v := -1) hx hb dX9_ship_46 (by decide) ?_
        exact ss_iret () hx hb hr hlocks (by rw [hf]; exact hP) (by rw [hf]; exact hD) hS (by rw [hf]) (Nat.le_of_ble_eq_true rfl) (Nat.le_of_ble_eq_true rfl) dX9_ship_47
      · replace hf := hf.trans (if_neg c2)
        refine lv_iload_n hx hb dX9_ship_32 rfl (lv_at hl 3 rfl) ?_
        refine lv_aload_n hx hb dX9_ship_33 rfl (lv_at hl 0 rfl) ?_
        refine va_get (D := D) (ci := 10) (v := .int (u.1 18)) (C := RX9) (T := TX9) (N := 45) hx hb hts im_X9_ship_X9 hown hE.1 hP 0 rfl rfl 18 (by decide) (hts (.fieldLink RX9 122 "RiverBridgesModel" "minute" "I") (by decide +kernel)) (fun _ h9 => h9) rfl dX9_ship_34 ?_
        refine lv_sipush (v := 1440) hx hb dX9_ship_37 (by decide) ?_
        refine sf_calli (va_runS (As := [.int cm, .int (u.1 18), .int 1440]) (rest := []) ⟨hx, hb, hml, hown, hts⟩ (m_isIn l D cI cZ cB cO cJ a0 H.size a  (sg u 0 0) cm (u.1 18) 1440 ) (cwS 3 hts gX9_ship_X9_isIn rfl rfl rfl (by decide +kernel) ⟨Nat.le_of_ble_eq_true rfl, Nat.le_of_ble_eq_true rfl⟩) (preS_full hE hZ hA hS hP hD) rfl rfl hl.1 rfl (lv_room (Nat.le_of_ble_eq_true rfl)) dX9_ship_40 ⟨Nat.le_of_ble_eq_true rfl, Nat.le_of_ble_eq_true rfl⟩) hP hD hS hA (fun r9 u9 H locs hw hP hD hS => ?_)
        subst hw
        have hP : va_P D vwCl (WM cI cZ cB a (sg u 0 0)) H := hP
        have hD : va_D A (WM cI cZ cB a (sg u 0 0)) := hD
        refine lv_if_ne (tgt := 48) hx hb dX9_ship_43 (by decide) (fun c3 => ?_) (fun c3 => ?_)
        · replace hf := hf.trans (if_neg c3)
          have hns := hne hI.nS.1 hI.nS.2 c8
          have i1 : vp_in (u.1 40) 40 := by rw [hI.nS.1]; exact vp_in_nI hns (by omega)
          refine lv_aload_n hx hb dX9_ship_48 rfl (lv_at hl 0 rfl) ?_
          refine va_get (D := D) (ci := 10) (v := .ref (a 31)) (C := RX9) (T := TX9) (N := 45) hx hb hts im_X9_ship_X9 hown hE.1 hP 0 rfl rfl 31 (by decide) (hts (.fieldLink RX9 67 "RiverBridgesModel" "high" "[I") (by decide +kernel)) (fun _ h9 => h9) rfl dX9_ship_49 ?_
          refine lv_aload_n hx hb dX9_ship_52 rfl (lv_at hl 0 rfl) ?_
          refine va_get (D := D) (ci := 10) (v := .int (u.1 40)) (C := RX9) (T := TX9) (N := 45) hx hb hts im_X9_ship_X9 hown hE.1 hP 0 rfl rfl 40 (by decide) (hts (.fieldLink RX9 208 "RiverBridgesModel" "ships" "I") (by decide +kernel)) (fun _ h9 => h9) rfl dX9_ship_53 ?_
          refine lv_iload_n hx hb dX9_ship_56 rfl (lv_at hl 1 rfl) ?_
          refine lx_iast (g := upd (u.2.2 31) ((u.1 40).toNatClampNeg) hg) hx hb hE.1 hP hD hS 18 0 rfl rfl (by assumption) (rfl) dX9_ship_57 (fun H locs hP hD hS => ?_)
          have hP := va_P_eq (WM_a31 cI cZ cB a (sg u 0 0) ((u.1 40).toNatClampNeg) hg) hP
          have hD := va_D_eq (WM_a31 cI cZ cB a (sg u 0 0) ((u.1 40).toNatClampNeg) hg) hD
          refine lv_aload_n hx hb dX9_ship_58 rfl (lv_at hl 0 rfl) ?_
          refine va_get (D := D) (ci := 10) (v := .ref (a 39)) (C := RX9) (T := TX9) (N := 45) hx hb hts im_X9_ship_X9 hown hE.1 hP 0 rfl rfl 39 (by decide) (hts (.fieldLink RX9 91 "RiverBridgesModel" "isUp" "[Z") (by decide +kernel)) (fun _ h9 => h9) rfl dX9_ship_59 ?_
          refine lv_aload_n hx hb dX9_ship_62 rfl (lv_at hl 0 rfl) ?_
          refine va_get (D := D) (ci := 10) (v := .int (u.1 40)) (C := RX9) (T := TX9) (N := 45) hx hb hts im_X9_ship_X9 hown hE.1 hP 0 rfl rfl 40 (by decide) (hts (.fieldLink RX9 208 "RiverBridgesModel" "ships" "I") (by decide +kernel)) (fun _ h9 => h9) rfl dX9_ship_63 ?_
          refine lv_iload_n hx hb dX9_ship_66 rfl (lv_at hl 2 rfl) ?_
          refine lx_zast (g := upd (u.2.2 39) ((u.1 40).toNatClampNeg) (vp_nar .boolean up)) hx hb hE.1 hP hD hS 26 1 rfl rfl (by assumption) (rfl) dX9_ship_67 (fun H locs hP hD hS => ?_)
          have hP := va_P_eq (WM_a39 cI cZ cB a (sa (sg u 0 0) 31 ((u.1 40).toNatClampNeg) hg) ((u.1 40).toNatClampNeg) (vp_nar .boolean up)) hP
          have hD := va_D_eq (WM_a39 cI cZ cB a (sa (sg u 0 0) 31 ((u.1 40).toNatClampNeg) hg) ((u.1 40).toNatClampNeg) (vp_nar .boolean up)) hD
          refine lv_aload_n hx hb dX9_ship_68 rfl (lv_at hl 0 rfl) ?_
          refine va_get (D := D) (ci := 10) (v := .ref (a 34)) (C := RX9) (T := TX9) (N := 45) hx hb hts im_X9_ship_X9 hown hE.1 hP 0 rfl rfl 34 (by decide) (hts (.fieldLink RX9 76 "RiverBridgesModel" "due" "[I") (by decide +kernel)) (fun _ h9 => h9) rfl dX9_ship_69 ?_
          refine lv_aload_n hx hb dX9_ship_72 rfl (lv_at hl 0 rfl) ?_
          refine va_get (D := D) (ci := 10) (v := .int (u.1 40)) (C := RX9) (T := TX9) (N := 45) hx hb hts im_X9_ship_X9 hown hE.1 hP 0 rfl rfl 40 (by decide) (hts (.fieldLink RX9 208 "RiverBridgesModel" "ships" "I") (by decide +kernel)) (fun _ h9 => h9) rfl dX9_ship_73 ?_
          refine lv_iload_n hx hb dX9_ship_76 rfl (lv_at hl 3 rfl) ?_
          refine lx_iast (g := upd (u.2.2 34) ((u.1 40).toNatClampNeg) cm) hx hb hE.1 hP hD hS 21 0 rfl rfl (by assumption) (rfl) dX9_ship_77 (fun H locs hP hD hS => ?_)
          have hP := va_P_eq (WM_a34 cI cZ cB a (sa (sa (sg u 0 0) 31 ((u.1 40).toNatClampNeg) hg) 39 ((u.1 40).toNatClampNeg) (vp_nar .boolean up)) ((u.1 40).toNatClampNeg) cm) hP
          have hD := va_D_eq (WM_a34 cI cZ cB a (sa (sa (sg u 0 0) 31 ((u.1 40).toNatClampNeg) hg) 39 ((u.1 40).toNatClampNeg) (vp_nar .boolean up)) ((u.1 40).toNatClampNeg) cm) hD
          refine lv_aload_n hx hb dX9_ship_78 rfl (lv_at hl 0 rfl) ?_
          refine va_get (D := D) (ci := 10) (v := .ref (a 37)) (C := RX9) (T := TX9) (N := 45) hx hb hts im_X9_ship_X9 hown hE.1 hP 0 rfl rfl 37 (by decide) (hts (.fieldLink RX9 85 "RiverBridgesModel" "done" "[I") (by decide +kernel)) (fun _ h9 => h9) rfl dX9_ship_79 ?_
          refine lv_aload_n hx hb dX9_ship_82 rfl (lv_at hl 0 rfl) ?_
          refine va_get (D := D) (ci := 10) (v := .int (u.1 40)) (C := RX9) (T := TX9) (N := 45) hx hb hts im_X9_ship_X9 hown hE.1 hP 0 rfl rfl 40 (by decide) (hts (.fieldLink RX9 208 "RiverBridgesModel" "ships" "I") (by decide +kernel)) (fun _ h9 => h9) rfl dX9_ship_83 ?_
          refine lv_iconst (v := -1) hx hb dX9_ship_86 (by decide) ?_
          refine lx_iast (g := upd (u.2.2 37) ((u.1 40).toNatClampNeg) (-1)) hx hb hE.1 hP hD hS 24 0 rfl rfl (by assumption) (rfl) dX9_ship_87 (fun H locs hP hD hS => ?_)
          have hP := va_P_eq (WM_a37 cI cZ cB a (sa (sa (sa (sg u 0 0) 31 ((u.1 40).toNatClampNeg) hg) 39 ((u.1 40).toNatClampNeg) (vp_nar .boolean up)) 34 ((u.1 40).toNatClampNeg) cm) ((u.1 40).toNatClampNeg) (-1)) hP
          have hD := va_D_eq (WM_a37 cI cZ cB a (sa (sa (sa (sg u 0 0) 31 ((u.1 40).toNatClampNeg) hg) 39 ((u.1 40).toNatClampNeg) (vp_nar .boolean up)) 34 ((u.1 40).toNatClampNeg) cm) ((u.1 40).toNatClampNeg) (-1)) hD
          refine lv_iconst (v := 0) hx hb dX9_ship_88 (by decide) ?_
          refine lv_istore (lv' := [(4, .int 0), (0, .ref (a 45)), (1, .int hg), (2, .int up), (3, .int cm)]) hx hb dX9_ship_89 hl (by decide) rfl (fun ls hl => ?_)
          have hf_lp_ship := hf
          refine ss_ind (J := fun n H locs ls => ∃ (u1 : RS) (k : Nat), (k + n = 9) ∧ (k ≤ 8) ∧ (u1.1 40 = nI nS) ∧ va_P D vwCl (WM cI cZ cB a u1) H ∧ va_D A (WM cI cZ cB a u1) ∧ va_S A s.heap H locs ∧ lv_has ls 5 [(4, .int (nI k)), (0, .ref (a 45)), (1, .int hg), (2, .int up), (3, .int cm)] ∧ lp_ship  9 (sa (sa (sa (sa (sg u 0 0) 31 ((u.1 40).toNatClampNeg) hg) 39 ((u.1 40).toNatClampNeg) (vp_nar .boolean up)) 34 ((u.1 40).toNatClampNeg) cm) 37 ((u.1 40).toNatClampNeg) (-1)) 0 = lp_ship  n u1 k) ?_ ?_ (9) _ _ _ ⟨(sa (sa (sa (sa (sg u 0 0) 31 ((u.1 40).toNatClampNeg) hg) 39 ((u.1 40).toNatClampNeg) (vp_nar .boolean up)) 34 ((u.1 40).toNatClampNeg) cm) 37 ((u.1 40).toNatClampNeg) (-1)), 0, (rfl), (Nat.zero_le _), (hI.nS.1), hP, hD, hS, (lv_sub hl [0, 1, 2, 3, 4] rfl), rfl⟩
          all_goals clear hf
          · intro H locs ls hJ
            obtain ⟨u1, k, hkn, hkw, h40, hP, hD, hS, hl, hf⟩ := hJ
            omega
          · intro n_lp_ship ih_lp_ship H locs ls hJ
            obtain ⟨u1, k, hkn, hkw, h40, hP, hD, hS, hl, hf⟩ := hJ
            replace hf := hf.trans (lp_ship_s  n_lp_ship _ _)
            refine lv_iload hx hb dX9_ship_91 (lv_at hl 0 rfl) ?_
            refine lv_bipush (v := 8) hx hb dX9_ship_93 (by decide) ?_
            refine lv_icmp_ge (tgt := 120) hx hb dX9_ship_95 (by decide) (fun ck => ?_) (fun ck => ?_)
            · replace hf := hf.trans (if_pos ck)
              have e90 : (lp_ship  9 (sa (sa (sa (sa (sg u 0 0) 31 ((u.1 40).toNatClampNeg) hg) 39 ((u.1 40).toNatClampNeg) (vp_nar .boolean up)) 34 ((u.1 40).toNatClampNeg) cm) 37 ((u.1 40).toNatClampNeg) (-1)) 0) = u1 := by rw [hf]
              clear hf
              have hf := hf_lp_ship
              try rw [e90] at hf
              clear ih_lp_ship e90
              have hl : lv_has ls 5 [(0, .ref (a 45)), (1, .int hg), (2, .int up), (3, .int cm)] := lv_sub hl [1, 2, 3, 4] rfl
              refine lv_aload_n hx hb dX9_ship_120 rfl (lv_at hl 0 rfl) ?_
              refine lv_dup hx hb dX9_ship_121 rfl ?_
              refine va_get (D := D) (ci := 10) (v := .int (u1.1 40)) (C := RX9) (T := TX9) (N := 45) hx hb hts im_X9_ship_X9 hown hE.1 hP 0 rfl rfl 40 (by decide) (hts (.fieldLink RX9 208 "RiverBridgesModel" "ships" "I") (by decide +kernel)) (fun _ h9 => h9) rfl dX9_ship_122 ?_
              refine lv_iconst (v := 1) hx hb dX9_ship_125 (by decide) ?_
              refine lx_iadd (v := (u1.1 40) + 1) hx hb (rfl) dX9_ship_126 ?_
              refine va_put (D := D) (ci := 10) (v := .int ((u1.1 40) + 1)) (ty := .int) (C := RX9) (T := TX9) (N := 45) hx hb hts im_X9_ship_X9 tyX9 tyX9_ok nmX9 hown hE.1 hP hD hS 0 rfl rfl 40 (by decide) (hts (.fieldLink RX9 208 "RiverBridgesModel" "ships" "I") (by decide +kernel)) (fun _ h9 => h9) rfl (by decide +kernel) rfl rfl (Nat.le_of_ble_eq_true rfl) dX9_ship_127 (fun H locs hP hD hS => ?_)
              have hP := va_P_eq (WM_g40 cI cZ cB a u1 ((u1.1 40) + 1)) hP
              have hD := va_D_eq (WM_g40 cI cZ cB a u1 ((u1.1 40) + 1)) hD
              refine lv_aload_n hx hb dX9_ship_130 rfl (lv_at hl 0 rfl) ?_
              refine va_get (D := D) (ci := 10) (v := .int ((u1.1 40) + 1)) (C := RX9) (T := TX9) (N := 45) hx hb hts im_X9_ship_X9 hown hE.1 hP 0 rfl rfl 40 (by decide) (hts (.fieldLink RX9 208 "RiverBridgesModel" "ships" "I") (by decide +kernel)) (fun _ h9 => h9) rfl dX9_ship_131 ?_
              refine lv_iconst (v := 1) hx hb dX9_ship_134 (by decide) ?_
              refine lx_isub (v := ((u1.1 40) + 1) - 1) hx hb (rfl) dX9_ship_135 ?_
              exact ss_iret () hx hb hr hlocks (by rw [hf]; exact hP) (by rw [hf]; exact hD) hS (by rw [hf]) (Nat.le_of_ble_eq_true rfl) (Nat.le_of_ble_eq_true rfl) dX9_ship_136
            · replace hf := hf.trans (if_neg ck)
              have hk : k < 8 := nltI (n := 8) rfl (by omega) (by omega) ck
              have i2 : vp_in (8 * (u1.1 40) + nI k) 320 := ix_mul8 (n := nS + 1) ⟨nS, by omega, h40⟩ (by omega) ⟨k, hk, rfl⟩
              refine lv_aload_n hx hb dX9_ship_98 rfl (lv_at hl 1 rfl) ?_
              refine va_get (D := D) (ci := 10) (v := .ref (a 38)) (C := RX9) (T := TX9) (N := 45) hx hb hts im_X9_ship_X9 hown hE.1 hP 0 rfl rfl 38 (by decide) (hts (.fieldLink RX9 88 "RiverBridgesModel" "through" "[I") (by decide +kernel)) (fun _ h9 => h9) rfl dX9_ship_99 ?_
              refine lv_bipush (v := 8) hx hb dX9_ship_102 (by decide) ?_
              refine lv_aload_n hx hb dX9_ship_104 rfl (lv_at hl 1 rfl) ?_
              refine va_get (D := D) (ci := 10) (v := .int (u1.1 40)) (C := RX9) (T := TX9) (N := 45) hx hb hts im_X9_ship_X9 hown hE.1 hP 0 rfl rfl 40 (by decide) (hts (.fieldLink RX9 208 "RiverBridgesModel" "ships" "I") (by decide +kernel)) (fun _ h9 => h9) rfl dX9_ship_105 ?_
              refine lx_imul (v := 8 * (u1.1 40)) hx hb (rfl) dX9_ship_108 ?_
              refine lv_iload hx hb dX9_ship_109 (lv_at hl 0 rfl) ?_
              refine lx_iadd (v := (8 * (u1.1 40)) + (nI k)) hx hb (rfl) dX9_ship_111 ?_
              refine lv_iconst (v := -1) hx hb dX9_ship_112 (by decide) ?_
              refine lx_iast (g := upd (u1.2.2 38) (((8 * (u1.1 40)) + (nI k)).toNatClampNeg) (-1)) hx hb hE.1 hP hD hS 25 0 rfl rfl (by assumption) (rfl) dX9_ship_113 (fun H locs hP hD hS => ?_)
              have hP := va_P_eq (WM_a38 cI cZ cB a u1 (((8 * (u1.1 40)) + (nI k)).toNatClampNeg) (-1)) hP
              have hD := va_D_eq (WM_a38 cI cZ cB a u1 (((8 * (u1.1 40)) + (nI k)).toNatClampNeg) (-1)) hD
              refine lv_iinc (v := nI (k + 1)) (lv' := [(4, .int (nI (k + 1))), (0, .ref (a 45)), (1, .int hg), (2, .int up), (3, .int cm)]) hx hb dX9_ship_114 hl (k := 0) rfl (by first | exact nI_add _ _ | rfl) (by decide) rfl (fun ls hl => ?_)
              refine lv_goto (tgt := 91) hx hb dX9_ship_117 (by decide) ?_
              exact ih_lp_ship _ _ _ ⟨(sa u1 38 (((8 * (u1.1 40)) + (nI k)).toNatClampNeg) (-1)), (k + 1), (by omega), (by omega), (h40), hP, hD, hS, (lv_sub hl [0, 1, 2, 3, 4] rfl), hf⟩
        · replace hf := hf.trans (if_pos c3)
          refine lv_iconst (v := -1) hx hb dX9_ship_46 (by decide) ?_
          exact ss_iret () hx hb hr hlocks (by rw [hf]; exact hP) (by rw [hf]; exact hD) hS (by rw [hf]) (Nat.le_of_ble_eq_true rfl) (Nat.le_of_ble_eq_true rfl) dX9_ship_47
def lp_tide2  : Nat → RS → Nat → RS
  | 0, u2, k2 => u2
  | n + 1, u2, k2 => (if 25 ≤ nI k2 then u2 else (lp_tide2  n (sa u2 16 k2 (u2.2.2 1 k2)) (k2 + 1)))
theorem lp_tide2_s  (n : Nat) (u2 : RS) (k2 : Nat) : lp_tide2  (n + 1) u2 k2 = (if 25 ≤ nI k2 then u2 else (lp_tide2  n (sa u2 16 k2 (u2.2.2 1 k2)) (k2 + 1))) := rfl
def lp_tide1 (w1 : RS) : Nat → Nat → Int32 × RS
  | 0, k => (0, w1)
  | n + 1, k => (if 25 ≤ nI k then (1, (lp_tide2  26 w1 0)) else (if f_isIn w1 (w1.2.2 1 k) 0 100 = 0 then (0, w1) else (lp_tide1 w1 n (k + 1))))
theorem lp_tide1_s (w1 : RS) (n : Nat) (k : Nat) : lp_tide1 w1 (n + 1) k = (if 25 ≤ nI k then (1, (lp_tide2  26 w1 0)) else (if f_isIn w1 (w1.2.2 1 k) 0 100 = 0 then (0, w1) else (lp_tide1 w1 n (k + 1)))) := rfl
def f_tide (u : RS) : Int32 × RS := (if (f_taken (sg u 0 0)).1 18 = 0 then (if (f_taken (sg u 0 0)).1 3 = 25 then (lp_tide1 (f_taken (sg u 0 0)) 26 0) else (0, (f_taken (sg u 0 0)))) else (0, (f_taken (sg u 0 0))))
theorem f_tide_s (u : RS) : f_tide u = (if (f_taken (sg u 0 0)).1 18 = 0 then (if (f_taken (sg u 0 0)).1 3 = 25 then (lp_tide1 (f_taken (sg u 0 0)) 26 0) else (0, (f_taken (sg u 0 0)))) else (0, (f_taken (sg u 0 0)))) := rfl
theorem im_X9_tide_X9 : ∀ w ∈ wsX90, w ∈ wsX9_tide := fun _ h => List.mem_cons_of_mem _ (List.mem_append_right _ h)
set_option maxHeartbeats 400000 in
set_option maxRecDepth 100000 in
theorem m_tide (l : Launch) (D : va_G) (cI cZ cB cO cJ : ClassId) (a0 sz : Nat) (a : Nat → Nat)  (u : RS) : Met l yX9_tide wsX9_tide ({ frames := 1, cells := 0, slots := 0, locals := 22 }) (Pcs D cI cZ cB cO cJ a0 [.ref (a 45)] (WM cI cZ cB a u) sz) (va_Qi (fun (r : Int32) (_ : Unit) => r = (f_tide u).1) (fun (_ : Unit) t => va_P D vwCl (WM cI cZ cB a (f_tide u).2) t.heap ∧ va_D (va_A (WM cI cZ cB a u) sz) (WM cI cZ cB a (f_tide u).2)) (va_A (WM cI cZ cB a u) sz)) 0 0 (va_A (WM cI cZ cB a u) sz) := by
  refine Met.ofW (cc := cX9_tide) (maxL := 2) (ret := (some .boolean)) (by decide) rfl ?_
  intro p e s m args below meth c s₁ B hml hv
  obtain ⟨rfl, hsz, hP, hE, hD0, hZ⟩ := hv
  have hx := B.exec
  have hb := B.bytes
  have hr := B.returns
  have hts := atoms_spec (ws := wsX9_tide) B.pre
  have hown : s.vm.findClass RX9 = some m.cls := findClass_of_methodNamed B.named
  have hlocks := B.notSynchronized
  subst hsz
  have hD := hD0.self (sz := s.heap.size)
  generalize hAe : va_A (WM cI cZ cB a u) s.heap.size = A at hD hZ ⊢
  have hA : ∀ q : Nat, s.heap.size ≤ q → A q := fun q h => by rw [← hAe]; exact Or.inr h
  clear hAe
  have hS : va_S A s.heap s.heap [] := va_S.rf
  have hP : va_P D vwCl (WM cI cZ cB a u) s.heap := hP
  have hl := lv_entry ([.ref (a 45)]) (n := 2) (Nat.le_of_ble_eq_true rfl)
  rw [lg_entry_eq]
  generalize (lg_sl ([.ref (a 45)]) ++ List.replicate (2 - (lg_sl ([.ref (a 45)])).length) Slot.unset).toArray = ls at hl ⊢
  have hl : lv_has ls 2 [(0, .ref (a 45))] := hl
  have hf := f_tide_s u
  refine lv_aload_n hx hb dX9_tide_0 rfl (lv_at hl 0 rfl) ?_
  refine lv_iconst (v := 0) hx hb dX9_tide_1 (by decide) ?_
  refine va_put (D := D) (ci := 10) (v := .int 0) (ty := .int) (C := RX9) (T := TX9) (N := 45) hx hb hts im_X9_tide_X9 tyX9 tyX9_ok nmX9 hown hE.1 hP hD hS 0 rfl rfl 0 (by decide) (hts (.fieldLink RX9 103 "RiverBridgesModel" "thrown" "I") (by decide +kernel)) (fun _ h9 => h9) rfl (by decide +kernel) rfl rfl (Nat.le_of_ble_eq_true rfl) dX9_tide_2 (fun H locs hP hD hS => ?_)
  have hP := va_P_eq (WM_g0 cI cZ cB a u 0) hP
  have hD := va_D_eq (WM_g0 cI cZ cB a u 0) hD
  refine lv_aload_n hx hb dX9_tide_5 rfl (lv_at hl 0 rfl) ?_
  refine sf_callv (va_runV (As := []) (rest := []) ⟨hx, hb, hml, hown, hts⟩ (m_taken l D cI cZ cB cO cJ a0 H.size a  (sg u 0 0)  ) (cwV 0 hts gX9_tide_X9_taken rfl rfl rfl (by decide +kernel) ⟨Nat.le_of_ble_eq_true rfl, Nat.le_of_ble_eq_true rfl⟩) (preV_full hE hZ hA hS hP hD (va_recv hE.1 hP (ci := 10) (q0 := 0) rfl rfl)) rfl rfl hl.1 rfl (lv_room (Nat.le_of_ble_eq_true rfl)) dX9_tide_6 ⟨Nat.le_of_ble_eq_true rfl, Nat.le_of_ble_eq_true rfl⟩) hP hD hS hA (fun u9 H locs hw hP hD hS => ?_)
  have hP : va_P D vwCl (WM cI cZ cB a (f_taken (sg u 0 0))) H := hP
  have hD : va_D A (WM cI cZ cB a (f_taken (sg u 0 0))) := hD
  refine lv_aload_n hx hb dX9_tide_9 rfl (lv_at hl 0 rfl) ?_
  refine va_get (D := D) (ci := 10) (v := .int ((f_taken (sg u 0 0)).1 18)) (C := RX9) (T := TX9) (N := 45) hx hb hts im_X9_tide_X9 hown hE.1 hP 0 rfl rfl 18 (by decide) (hts (.fieldLink RX9 122 "RiverBridgesModel" "minute" "I") (by decide +kernel)) (fun _ h9 => h9) rfl dX9_tide_10 ?_
  refine lv_if_ne (tgt := 25) hx hb dX9_tide_13 (by decide) (fun c1 => ?_) (fun c1 => ?_)
  · replace hf := hf.trans (if_neg c1)
    refine lv_iconst (v := 0) hx hb dX9_tide_25 (by decide) ?_
    exact ss_zret () hx hb hr hlocks (by decide) (by rw [hf]; exact hP) (by rw [hf]; exact hD) hS (by rw [hf]) (Nat.le_of_ble_eq_true rfl) (Nat.le_of_ble_eq_true rfl) dX9_tide_26
  · replace hf := hf.trans (if_pos c1)
    refine lv_aload_n hx hb dX9_tide_16 rfl (lv_at hl 0 rfl) ?_
    refine va_get (D := D) (ci := 10) (v := .int ((f_taken (sg u 0 0)).1 3)) (C := RX9) (T := TX9) (N := 45) hx hb hts im_X9_tide_X9 hown hE.1 hP 0 rfl rfl 3 (by decide) (hts (.fieldLink RX9 113 "RiverBridgesModel" "size" "I") (by decide +kernel)) (fun _ h9 => h9) rfl dX9_tide_17 ?_
    refine lv_bipush (v := 25) hx hb dX9_tide_20 (by decide) ?_
    refine lv_icmp_eq (tgt := 27) hx hb dX9_tide_22 (by decide) (fun c2 => ?_) (fun c2 => ?_)
    · replace hf := hf.trans (if_pos c2)
      refine lv_iconst (v := 0) hx hb dX9_tide_27 (by decide) ?_
      refine lv_istore_n (lv' := [(1, .int 0), (0, .ref (a 45))]) hx hb dX9_tide_28 rfl hl (by decide) rfl (fun ls hl => ?_)
      refine ss_ind (J := fun n H locs ls => ∃ (k : Nat), (k + n = 26) ∧ (k ≤ 25) ∧ va_P D vwCl (WM cI cZ cB a (f_taken (sg u 0 0))) H ∧ va_D A (WM cI cZ cB a (f_taken (sg u 0 0))) ∧ va_S A s.heap H locs ∧ lv_has ls 2 [(1, .int (nI k)), (0, .ref (a 45))] ∧ f_tide u = lp_tide1 (f_taken (sg u 0 0)) n k) ?_ ?_ (26) _ _ _ ⟨0, (rfl), (Nat.zero_le _), hP, hD, hS, (lv_sub hl [0, 1] rfl), hf⟩
      · intro H locs ls hJ
        obtain ⟨k, hkn, hkw, hP, hD, hS, hl, hf⟩ := hJ
        omega
      · intro n_lp_tide1 ih_lp_tide1 H locs ls hJ
        obtain ⟨k, hkn, hkw, hP, hD, hS, hl, hf⟩ := hJ
        replace hf := hf.trans (lp_tide1_s _ n_lp_tide1 _)
        refine lv_iload_n hx hb dX9_tide_29 rfl (lv_at hl 0 rfl) ?_
        refine lv_bipush (v := 25) hx hb dX9_tide_30 (by decide) ?_
        refine lv_icmp_ge (tgt := 58) hx hb dX9_tide_32 (by decide) (fun ck => ?_) (fun ck => ?_)
        · replace hf := hf.trans (if_pos ck)
          refine lv_iconst (v := 0) hx hb dX9_tide_58 (by decide) ?_
          refine lv_istore_n (lv' := [(1, .int 0), (0, .ref (a 45))]) hx hb dX9_tide_59 rfl hl (by decide) rfl (fun ls hl => ?_)
          have hf_lp_tide2 := hf
          refine ss_ind (J := fun n H locs ls => ∃ (u2 : RS) (k2 : Nat), (k2 + n = 26) ∧ (k2 ≤ 25) ∧ va_P D vwCl (WM cI cZ cB a u2) H ∧ va_D A (WM cI cZ cB a u2) ∧ va_S A s.heap H locs ∧ lv_has ls 2 [(1, .int (nI k2)), (0, .ref (a 45))] ∧ lp_tide2  26 (f_taken (sg u 0 0)) 0 = lp_tide2  n u2 k2) ?_ ?_ (26) _ _ _ ⟨(f_taken (sg u 0 0)), 0, (rfl), (Nat.zero_le _), hP, hD, hS, (lv_sub hl [0, 1] rfl), rfl⟩
          all_goals clear hf
          · intro H locs ls hJ
            obtain ⟨u2, k2, hkn, hkw, hP, hD, hS, hl, hf⟩ := hJ
            omega
          · intro n_lp_tide2 ih_lp_tide2 H locs ls hJ
            obtain ⟨u2, k2, hkn, hkw, hP, hD, hS, hl, hf⟩ := hJ
            replace hf := hf.trans (lp_tide2_s  n_lp_tide2 _ _)
            refine lv_iload_n hx hb dX9_tide_60 rfl (lv_at hl 0 rfl) ?_
            refine lv_bipush (v := 25) hx hb dX9_tide_61 (by decide) ?_
            refine lv_icmp_ge (tgt := 84) hx hb dX9_tide_63 (by decide) (fun ck => ?_) (fun ck => ?_)
            · replace hf := hf.trans (if_pos ck)
              have e90 : (lp_tide2  26 (f_taken (sg u 0 0)) 0) = u2 := by rw [hf]
              clear hf
              have hf := hf_lp_tide2
              try rw [e90] at hf
              clear ih_lp_tide2 e90
              have hl : lv_has ls 2 [(0, .ref (a 45))] := lv_sub hl [1] rfl
              refine lv_iconst (v := 1) hx hb dX9_tide_84 (by decide) ?_
              exact ss_zret () hx hb hr hlocks (by decide) (by rw [hf]; exact hP) (by rw [hf]; exact hD) hS (by rw [hf]) (Nat.le_of_ble_eq_true rfl) (Nat.le_of_ble_eq_true rfl) dX9_tide_85
            · replace hf := hf.trans (if_neg ck)
              have hk : k2 < 25 := nltI (n := 25) rfl (by omega) (by omega) ck
              have i1 : vp_in (nI k2) 25 := vp_in_nI hk (by omega)
              have i2 : vp_in (nI k2) 440 := vp_in_nI (by omega) (by omega)
              refine lv_aload_n hx hb dX9_tide_66 rfl (lv_at hl 1 rfl) ?_
              refine va_get (D := D) (ci := 10) (v := .ref (a 16)) (C := RX9) (T := TX9) (N := 45) hx hb hts im_X9_tide_X9 hown hE.1 hP 0 rfl rfl 16 (by decide) (hts (.fieldLink RX9 47 "RiverBridgesModel" "levels" "[I") (by decide +kernel)) (fun _ h9 => h9) rfl dX9_tide_67 ?_
              refine lv_iload_n hx hb dX9_tide_70 rfl (lv_at hl 0 rfl) ?_
              refine lv_aload_n hx hb dX9_tide_71 rfl (lv_at hl 1 rfl) ?_
              refine va_get (D := D) (ci := 10) (v := .ref (a 1)) (C := RX9) (T := TX9) (N := 45) hx hb hts im_X9_tide_X9 hown hE.1 hP 0 rfl rfl 1 (by decide) (hts (.fieldLink RX9 7 "RiverBridgesModel" "tape" "[B") (by decide +kernel)) (fun _ h9 => h9) rfl dX9_tide_72 ?_
              refine lv_iload_n hx hb dX9_tide_75 rfl (lv_at hl 0 rfl) ?_
              refine lx_bald (v := u2.2.2 1 k2) hx hb hE.1 hP 1 2 rfl rfl (by assumption) (by (rw [nI_clamp (by omega)]) <;> rfl) dX9_tide_76 ?_
              refine lx_iast (g := upd (u2.2.2 16) k2 (u2.2.2 1 k2)) hx hb hE.1 hP hD hS 13 0 rfl rfl (by assumption) (by (rw [nI_clamp (by omega)]) <;> rfl) dX9_tide_77 (fun H locs hP hD hS => ?_)
              have hP := va_P_eq (WM_a16 cI cZ cB a u2 k2 (u2.2.2 1 k2)) hP
              have hD := va_D_eq (WM_a16 cI cZ cB a u2 k2 (u2.2.2 1 k2)) hD
              refine lv_iinc (v := nI (k2 + 1)) (lv' := [(1, .int (nI (k2 + 1))), (0, .ref (a 45))]) hx hb dX9_tide_78 hl (k := 0) rfl (by first | exact nI_add _ _ | rfl) (by decide) rfl (fun ls hl => ?_)
              refine lv_goto (tgt := 60) hx hb dX9_tide_81 (by decide) ?_
              exact ih_lp_tide2 _ _ _ ⟨(sa u2 16 k2 (u2.2.2 1 k2)), (k2 + 1), (by omega), (by omega), hP, hD, hS, (lv_sub hl [0, 1] rfl), hf⟩
        · replace hf := hf.trans (if_neg ck)
          have hk : k < 25 := nltI (n := 25) rfl (by omega) (by omega) ck
          have i1 : vp_in (nI k) 25 := vp_in_nI hk (by omega)
          have i2 : vp_in (nI k) 440 := vp_in_nI (by omega) (by omega)
          refine lv_aload_n hx hb dX9_tide_35 rfl (lv_at hl 1 rfl) ?_
          refine va_get (D := D) (ci := 10) (v := .ref (a 1)) (C := RX9) (T := TX9) (N := 45) hx hb hts im_X9_tide_X9 hown hE.1 hP 0 rfl rfl 1 (by decide) (hts (.fieldLink RX9 7 "RiverBridgesModel" "tape" "[B") (by decide +kernel)) (fun _ h9 => h9) rfl dX9_tide_36 ?_
          refine lv_iload_n hx hb dX9_tide_39 rfl (lv_at hl 0 rfl) ?_
          refine lx_bald (v := (f_taken (sg u 0 0)).2.2 1 k) hx hb hE.1 hP 1 2 rfl rfl (by assumption) (by (rw [nI_clamp (by omega)]) <;> rfl) dX9_tide_40 ?_
          refine lv_iconst (v := 0) hx hb dX9_tide_41 (by decide) ?_
          refine lv_bipush (v := 100) hx hb dX9_tide_42 (by decide) ?_
          refine sf_calli (va_runS (As := [.int ((f_taken (sg u 0 0)).2.2 1 k), .int 0, .int 100]) (rest := []) ⟨hx, hb, hml, hown, hts⟩ (m_isIn l D cI cZ cB cO cJ a0 H.size a  (f_taken (sg u 0 0)) ((f_taken (sg u 0 0)).2.2 1 k) 0 100 ) (cwS 3 hts gX9_tide_X9_isIn rfl rfl rfl (by decide +kernel) ⟨Nat.le_of_ble_eq_true rfl, Nat.le_of_ble_eq_true rfl⟩) (preS_full hE hZ hA hS hP hD) rfl rfl hl.1 rfl (lv_room (Nat.le_of_ble_eq_true rfl)) dX9_tide_44 ⟨Nat.le_of_ble_eq_true rfl, Nat.le_of_ble_eq_true rfl⟩) hP hD hS hA (fun r9 u9 H locs hw hP hD hS => ?_)
          subst hw
          have hP : va_P D vwCl (WM cI cZ cB a (f_taken (sg u 0 0))) H := hP
          have hD : va_D A (WM cI cZ cB a (f_taken (sg u 0 0))) := hD
          refine lv_if_ne (tgt := 52) hx hb dX9_tide_47 (by decide) (fun c3 => ?_) (fun c3 => ?_)
          · replace hf := hf.trans (if_neg c3)
            refine lv_iinc (v := nI (k + 1)) (lv' := [(1, .int (nI (k + 1))), (0, .ref (a 45))]) hx hb dX9_tide_52 hl (k := 0) rfl (by first | exact nI_add _ _ | rfl) (by decide) rfl (fun ls hl => ?_)
            refine lv_goto (tgt := 29) hx hb dX9_tide_55 (by decide) ?_
            exact ih_lp_tide1 _ _ _ ⟨(k + 1), (by omega), (by omega), hP, hD, hS, (lv_sub hl [0, 1] rfl), hf⟩
          · replace hf := hf.trans (if_pos c3)
            refine lv_iconst (v := 0) hx hb dX9_tide_50 (by decide) ?_
            exact ss_zret () hx hb hr hlocks (by decide) (by rw [hf]; exact hP) (by rw [hf]; exact hD) hS (by rw [hf]) (Nat.le_of_ble_eq_true rfl) (Nat.le_of_ble_eq_true rfl) dX9_tide_51
    · replace hf := hf.trans (if_neg c2)
      refine lv_iconst (v := 0) hx hb dX9_tide_25 (by decide) ?_
      exact ss_zret () hx hb hr hlocks (by decide) (by rw [hf]; exact hP) (by rw [hf]; exact hD) hS (by rw [hf]) (Nat.le_of_ble_eq_true rfl) (Nat.le_of_ble_eq_true rfl) dX9_tide_26
def lp_about (u : RS) (b : Int32) : Nat → Int32 → Nat → Int32
  | 0, x1, k => x1
  | n + 1, x1, k => (if u.1 40 ≤ nI k then x1 else (if u.2.2 32 k = 1 then (if u.2.2 33 k = b then (lp_about u b n (x1 + 1) (k + 1)) else (lp_about u b n (x1 + 0) (k + 1))) else (lp_about u b n (x1 + 0) (k + 1))))
theorem lp_about_s (u : RS) (b : Int32) (n : Nat) (x1 : Int32) (k : Nat) : lp_about u b (n + 1) x1 k = (if u.1 40 ≤ nI k then x1 else (if u.2.2 32 k = 1 then (if u.2.2 33 k = b then (lp_about u b n (x1 + 1) (k + 1)) else (lp_about u b n (x1 + 0) (k + 1))) else (lp_about u b n (x1 + 0) (k + 1)))) := rfl
def f_about (u : RS) (b : Int32) (what : Int32) : Int32 × RS := (if f_isBridge (sg u 0 0) b = 0 then (-1, (sg u 0 0)) else (if what = 0 then (u.2.2 11 b.toNatClampNeg, (sg u 0 0)) else (if what = 1 then (u.2.2 12 b.toNatClampNeg, (sg u 0 0)) else (if what = 2 then ((lp_about u b 41 0 0), (sg u 0 0)) else (if what = 3 then (u.2.2 13 b.toNatClampNeg, (sg u 0 0)) else (if what = 4 then (u.2.2 14 b.toNatClampNeg, (sg u 0 0)) else (if what = 5 then (u.2.2 15 b.toNatClampNeg, (sg u 0 0)) else (-1, (sg u 0 0)))))))))
theorem f_about_s (u : RS) (b : Int32) (what : Int32) : f_about u b what = (if f_isBridge (sg u 0 0) b = 0 then (-1, (sg u 0 0)) else (if what = 0 then (u.2.2 11 b.toNatClampNeg, (sg u 0 0)) else (if what = 1 then (u.2.2 12 b.toNatClampNeg, (sg u 0 0)) else (if what = 2 then ((lp_about u b 41 0 0), (sg u 0 0)) else (if what = 3 then (u.2.2 13 b.toNatClampNeg, (sg u 0 0)) else (if what = 4 then (u.2.2 14 b.toNatClampNeg, (sg u 0 0)) else (if what = 5 then (u.2.2 15 b.toNatClampNeg, (sg u 0 0)) else (-1, (sg u 0 0))))))))) := rfl
theorem im_X9_about_X9 : ∀ w ∈ wsX90, w ∈ wsX9_about := fun _ h => List.mem_cons_of_mem _ (List.mem_append_right _ h)
set_option maxHeartbeats 400000 in
set_option maxRecDepth 100000 in
theorem m_about (l : Launch) (D : va_G) (cI cZ cB cO cJ : ClassId) (a0 sz : Nat) (a : Nat → Nat) (nB nS nK mi ln : Nat) (u : RS) (b : Int32) (what : Int32) (hI : MI nB nS nK mi ln u) : Met l yX9_about wsX9_about ({ frames := 1, cells := 0, slots := 0, locals := 21 }) (Pcs D cI cZ cB cO cJ a0 [.ref (a 45), .int b, .int what] (WM cI cZ cB a u) sz) (va_Qi (fun (r : Int32) (_ : Unit) => r = (f_about u b what).1) (fun (_ : Unit) t => va_P D vwCl (WM cI cZ cB a (f_about u b what).2) t.heap ∧ va_D (va_A (WM cI cZ cB a u) sz) (WM cI cZ cB a (f_about u b what).2)) (va_A (WM cI cZ cB a u) sz)) 0 0 (va_A (WM cI cZ cB a u) sz) := by
  refine Met.ofW (cc := cX9_about) (maxL := 5) (ret := (some .int)) (by decide) rfl ?_
  intro p e s m args below meth c s₁ B hml hv
  obtain ⟨rfl, hsz, hP, hE, hD0, hZ⟩ := hv
  have hx := B.exec
  have hb := B.bytes
  have hr := B.returns
  have hts := atoms_spec (ws := wsX9_about) B.pre
  have hown : s.vm.findClass RX9 = some m.cls := findClass_of_methodNamed B.named
  have hlocks := B.notSynchronized
  subst hsz
  have hD := hD0.self (sz := s.heap.size)
  generalize hAe : va_A (WM cI cZ cB a u) s.heap.size = A at hD hZ ⊢
  have hA : ∀ q : Nat, s.heap.size ≤ q → A q := fun q h => by rw [← hAe]; exact Or.inr h
  clear hAe
  have hS : va_S A s.heap s.heap [] := va_S.rf
  have hP : va_P D vwCl (WM cI cZ cB a u) s.heap := hP
  have hl := lv_entry ([.ref (a 45), .int b, .int what]) (n := 5) (Nat.le_of_ble_eq_true rfl)
  rw [lg_entry_eq]
  generalize (lg_sl ([.ref (a 45), .int b, .int what]) ++ List.replicate (5 - (lg_sl ([.ref (a 45), .int b, .int what])).length) Slot.unset).toArray = ls at hl ⊢
  have hl : lv_has ls 5 [(0, .ref (a 45)), (1, .int b), (2, .int what)] := hl
  have hf := f_about_s u b what
  refine lv_aload_n hx hb dX9_about_0 rfl (lv_at hl 0 rfl) ?_
  refine lv_iconst (v := 0) hx hb dX9_about_1 (by decide) ?_
  refine va_put (D := D) (ci := 10) (v := .int 0) (ty := .int) (C := RX9) (T := TX9) (N := 45) hx hb hts im_X9_about_X9 tyX9 tyX9_ok nmX9 hown hE.1 hP hD hS 0 rfl rfl 0 (by decide) (hts (.fieldLink RX9 103 "RiverBridgesModel" "thrown" "I") (by decide +kernel)) (fun _ h9 => h9) rfl (by decide +kernel) rfl rfl (Nat.le_of_ble_eq_true rfl) dX9_about_2 (fun H locs hP hD hS => ?_)
  have hP := va_P_eq (WM_g0 cI cZ cB a u 0) hP
  have hD := va_D_eq (WM_g0 cI cZ cB a u 0) hD
  refine lv_aload_n hx hb dX9_about_5 rfl (lv_at hl 0 rfl) ?_
  refine lv_iload_n hx hb dX9_about_6 rfl (lv_at hl 1 rfl) ?_
  refine sf_calli (va_runV (As := [.int b]) (rest := []) ⟨hx, hb, hml, hown, hts⟩ (m_isBridge l D cI cZ cB cO cJ a0 H.size a  (sg u 0 0) b ) (cwV 1 hts gX9_about_X9_isBridge rfl rfl rfl (by decide +kernel) ⟨Nat.le_of_ble_eq_true rfl, Nat.le_of_ble_eq_true rfl⟩) (preV_full hE hZ hA hS hP hD (va_recv hE.1 hP (ci := 10) (q0 := 0) rfl rfl)) rfl rfl hl.1 rfl (lv_room (Nat.le_of_ble_eq_true rfl)) dX9_about_7 ⟨Nat.le_of_ble_eq_true rfl, Nat.le_of_ble_eq_true rfl⟩) hP hD hS hA (fun r9 u9 H locs hw hP hD hS => ?_)
  subst hw
  have hP : va_P D vwCl (WM cI cZ cB a (sg u 0 0)) H := hP
  have hD : va_D A (WM cI cZ cB a (sg u 0 0)) := hD
  refine lv_if_ne (tgt := 15) hx hb dX9_about_10 (by decide) (fun cb => ?_) (fun cb => ?_)
  · replace hf := hf.trans (if_neg cb)
    have hI0 := MI_sg (k := 0) (v := 0) hI (by decide)
    have i1 := (isBridge_ix hI0 cb).inn (N := 8) hI.nB.2 (by omega)
    refine lv_iconst (v := 0) hx hb dX9_about_15 (by decide) ?_
    refine lv_istore_n (lv' := [(3, .int 0), (0, .ref (a 45)), (1, .int b), (2, .int what)]) hx hb dX9_about_16 rfl hl (by decide) rfl (fun ls hl => ?_)
    refine lv_iload_n hx hb dX9_about_17 rfl (lv_at hl 3 rfl) ?_
    by_cases e1 : what = 0
    · replace hf := hf.trans (if_pos e1)
      refine lv_tableIn (off := 38) (tgt := 56) hx hb dX9_about_18 (by rw [e1]; decide) (by rw [e1]; decide) (by rw [e1]; decide) (by decide) ?_
      refine lv_aload_n hx hb dX9_about_56 rfl (lv_at hl 1 rfl) ?_
      refine va_get (D := D) (ci := 10) (v := .ref (a 11)) (C := RX9) (T := TX9) (N := 45) hx hb hts im_X9_about_X9 hown hE.1 hP 0 rfl rfl 11 (by decide) (hts (.fieldLink RX9 32 "RiverBridgesModel" "state" "[I") (by decide +kernel)) (fun _ h9 => h9) rfl dX9_about_57 ?_
      refine lv_iload_n hx hb dX9_about_60 rfl (lv_at hl 2 rfl) ?_
      refine lx_iald (v := u.2.2 11 b.toNatClampNeg) hx hb hE.1 hP 8 0 rfl rfl (by assumption) (rfl) dX9_about_61 ?_
      exact ss_iret () hx hb hr hlocks (by rw [hf]; exact hP) (by rw [hf]; exact hD) hS (by rw [hf]) (Nat.le_of_ble_eq_true rfl) (Nat.le_of_ble_eq_true rfl) dX9_about_62
    replace hf := hf.trans (if_neg e1)
    by_cases e2 : what = 1
    · replace hf := hf.trans (if_pos e2)
      refine lv_tableIn (off := 45) (tgt := 63) hx hb dX9_about_18 (by rw [e2]; decide) (by rw [e2]; decide) (by rw [e2]; decide) (by decide) ?_
      refine lv_aload_n hx hb dX9_about_63 rfl (lv_at hl 1 rfl) ?_
      refine va_get (D := D) (ci := 10) (v := .ref (a 12)) (C := RX9) (T := TX9) (N := 45) hx hb hts im_X9_about_X9 hown hE.1 hP 0 rfl rfl 12 (by decide) (hts (.fieldLink RX9 35 "RiverBridgesModel" "until" "[I") (by decide +kernel)) (fun _ h9 => h9) rfl dX9_about_64 ?_
      refine lv_iload_n hx hb dX9_about_67 rfl (lv_at hl 2 rfl) ?_
      refine lx_iald (v := u.2.2 12 b.toNatClampNeg) hx hb hE.1 hP 9 0 rfl rfl (by assumption) (rfl) dX9_about_68 ?_
      exact ss_iret () hx hb hr hlocks (by rw [hf]; exact hP) (by rw [hf]; exact hD) hS (by rw [hf]) (Nat.le_of_ble_eq_true rfl) (Nat.le_of_ble_eq_true rfl) dX9_about_69
    replace hf := hf.trans (if_neg e2)
    by_cases e3 : what = 2
    · replace hf := hf.trans (if_pos e3)
      refine lv_tableIn (off := 52) (tgt := 70) hx hb dX9_about_18 (by rw [e3]; decide) (by rw [e3]; decide) (by rw [e3]; decide) (by decide) ?_
      refine lv_iconst (v := 0) hx hb dX9_about_70 (by decide) ?_
      refine lv_istore (lv' := [(4, .int 0), (3, .int 0), (0, .ref (a 45)), (1, .int b), (2, .int what)]) hx hb dX9_about_71 hl (by decide) rfl (fun ls hl => ?_)
      have hf_lp_about := hf
      refine ss_ind (J := fun n H locs ls => ∃ (x1 : Int32) (k : Nat), (k + n = 41) ∧ (k ≤ nS) ∧ va_P D vwCl (WM cI cZ cB a (sg u 0 0)) H ∧ va_D A (WM cI cZ cB a (sg u 0 0)) ∧ va_S A s.heap H locs ∧ lv_has ls 5 [(3, .int x1), (4, .int (nI k)), (0, .ref (a 45)), (1, .int b), (2, .int what)] ∧ lp_about u b 41 0 0 = lp_about u b n x1 k) ?_ ?_ (41) _ _ _ ⟨0, 0, (rfl), (Nat.zero_le _), hP, hD, hS, (lv_sub hl [1, 0, 2, 3, 4] rfl), rfl⟩
      all_goals clear hf
      · intro H locs ls hJ
        obtain ⟨x1, k, hkn, hkw, hP, hD, hS, hl, hf⟩ := hJ
        have := hI.nS.2; omega
      · intro n_lp_about ih_lp_about H locs ls hJ
        obtain ⟨x1, k, hkn, hkw, hP, hD, hS, hl, hf⟩ := hJ
        replace hf := hf.trans (lp_about_s _ _ n_lp_about _ _)
        refine lv_iload hx hb dX9_about_73 (lv_at hl 1 rfl) ?_
        refine lv_aload_n hx hb dX9_about_75 rfl (lv_at hl 2 rfl) ?_
        refine va_get (D := D) (ci := 10) (v := .int (u.1 40)) (C := RX9) (T := TX9) (N := 45) hx hb hts im_X9_about_X9 hown hE.1 hP 0 rfl rfl 40 (by decide) (hts (.fieldLink RX9 208 "RiverBridgesModel" "ships" "I") (by decide +kernel)) (fun _ h9 => h9) rfl dX9_about_76 ?_
        refine lv_icmp_ge (tgt := 118) hx hb dX9_about_79 (by decide) (fun ck => ?_) (fun ck => ?_)
        · replace hf := hf.trans (if_pos ck)
          have e90 : (lp_about u b 41 0 0) = x1 := by rw [hf]
          clear hf
          have hf := hf_lp_about
          try rw [e90] at hf
          clear ih_lp_about e90
          have hl : lv_has ls 5 [(3, .int x1), (0, .ref (a 45)), (1, .int b), (2, .int what)] := lv_sub hl [0, 2, 3, 4] rfl
          refine lv_iload_n hx hb dX9_about_118 rfl (lv_at hl 0 rfl) ?_
          exact ss_iret () hx hb hr hlocks (by rw [hf]; exact hP) (by rw [hf]; exact hD) hS (by rw [hf]) (Nat.le_of_ble_eq_true rfl) (Nat.le_of_ble_eq_true rfl) dX9_about_119
        · replace hf := hf.trans (if_neg ck)
          have hk : k < nS := nltI hI0.nS.1 (by have := hI0.nS.2; omega) (by omega) ck
          have i2 : vp_in (nI k) 40 := vp_in_nI (by have := hI0.nS.2; omega) (by omega)
          refine lv_iload_n hx hb dX9_about_82 rfl (lv_at hl 0 rfl) ?_
          refine lv_aload_n hx hb dX9_about_83 rfl (lv_at hl 2 rfl) ?_
          refine va_get (D := D) (ci := 10) (v := .ref (a 32)) (C := RX9) (T := TX9) (N := 45) hx hb hts im_X9_about_X9 hown hE.1 hP 0 rfl rfl 32 (by decide) (hts (.fieldLink RX9 70 "RiverBridgesModel" "ship" "[I") (by decide +kernel)) (fun _ h9 => h9) rfl dX9_about_84 ?_
          refine lv_iload hx hb dX9_about_87 (lv_at hl 1 rfl) ?_
          refine lx_iald (v := u.2.2 32 k) hx hb hE.1 hP 19 0 rfl rfl (by assumption) (by (rw [nI_clamp (by omega)]) <;> rfl) dX9_about_89 ?_
          refine lv_iconst (v := 1) hx hb dX9_about_90 (by decide) ?_
          refine lv_icmp_ne (tgt := 109) hx hb dX9_about_91 (by decide) (fun c4 => ?_) (fun c4 => ?_)
          · replace hf := hf.trans (if_neg c4)
            refine lv_iconst (v := 0) hx hb dX9_about_109 (by decide) ?_
            refine lx_iadd (v := x1 + 0) hx hb (rfl) dX9_about_110 ?_
            refine lv_istore_n (lv' := [(3, .int (x1 + 0)), (4, .int (nI k)), (0, .ref (a 45)), (1, .int b), (2, .int what)]) hx hb dX9_about_111 rfl hl (by decide) rfl (fun ls hl => ?_)
            refine lv_iinc (v := nI (k + 1)) (lv' := [(4, .int (nI (k + 1))), (3, .int (x1 + 0)), (0, .ref (a 45)), (1, .int b), (2, .int what)]) hx hb dX9_about_112 hl (k := 1) rfl (by first | exact nI_add _ _ | rfl) (by decide) rfl (fun ls hl => ?_)
            refine lv_goto (tgt := 73) hx hb dX9_about_115 (by decide) ?_
            exact ih_lp_about _ _ _ ⟨(x1 + 0), (k + 1), (by omega), (by omega), hP, hD, hS, (lv_sub hl [1, 0, 2, 3, 4] rfl), hf⟩
          · replace hf := hf.trans (if_pos c4)
            refine lv_aload_n hx hb dX9_about_94 rfl (lv_at hl 2 rfl) ?_
            refine va_get (D := D) (ci := 10) (v := .ref (a 33)) (C := RX9) (T := TX9) (N := 45) hx hb hts im_X9_about_X9 hown hE.1 hP 0 rfl rfl 33 (by decide) (hts (.fieldLink RX9 73 "RiverBridgesModel" "where" "[I") (by decide +kernel)) (fun _ h9 => h9) rfl dX9_about_95 ?_
            refine lv_iload hx hb dX9_about_98 (lv_at hl 1 rfl) ?_
            refine lx_iald (v := u.2.2 33 k) hx hb hE.1 hP 20 0 rfl rfl (by assumption) (by (rw [nI_clamp (by omega)]) <;> rfl) dX9_about_100 ?_
            refine lv_iload_n hx hb dX9_about_101 rfl (lv_at hl 3 rfl) ?_
            refine lv_icmp_ne (tgt := 109) hx hb dX9_about_102 (by decide) (fun c5 => ?_) (fun c5 => ?_)
            · replace hf := hf.trans (if_neg c5)
              refine lv_iconst (v := 0) hx hb dX9_about_109 (by decide) ?_
              refine lx_iadd (v := x1 + 0) hx hb (rfl) dX9_about_110 ?_
              refine lv_istore_n (lv' := [(3, .int (x1 + 0)), (4, .int (nI k)), (0, .ref (a 45)), (1, .int b), (2, .int what)]) hx hb dX9_about_111 rfl hl (by decide) rfl (fun ls hl => ?_)
              refine lv_iinc (v := nI (k + 1)) (lv' := [(4, .int (nI (k + 1))), (3, .int (x1 + 0)), (0, .ref (a 45)), (1, .int b), (2, .int what)]) hx hb dX9_about_112 hl (k := 1) rfl (by first | exact nI_add _ _ | rfl) (by decide) rfl (fun ls hl => ?_)
              refine lv_goto (tgt := 73) hx hb dX9_about_115 (by decide) ?_
              exact ih_lp_about _ _ _ ⟨(x1 + 0), (k + 1), (by omega), (by omega), hP, hD, hS, (lv_sub hl [1, 0, 2, 3, 4] rfl), hf⟩
            · replace hf := hf.trans (if_pos c5)
              refine lv_iconst (v := 1) hx hb dX9_about_105 (by decide) ?_
              refine lv_goto (tgt := 110) hx hb dX9_about_106 (by decide) ?_
              refine lx_iadd (v := x1 + 1) hx hb (rfl) dX9_about_110 ?_
              refine lv_istore_n (lv' := [(3, .int (x1 + 1)), (4, .int (nI k)), (0, .ref (a 45)), (1, .int b), (2, .int what)]) hx hb dX9_about_111 rfl hl (by decide) rfl (fun ls hl => ?_)
              refine lv_iinc (v := nI (k + 1)) (lv' := [(4, .int (nI (k + 1))), (3, .int (x1 + 1)), (0, .ref (a 45)), (1, .int b), (2, .int what)]) hx hb dX9_about_112 hl (k := 1) rfl (by first | exact nI_add _ _ | rfl) (by decide) rfl (fun ls hl => ?_)
              refine lv_goto (tgt := 73) hx hb dX9_about_115 (by decide) ?_
              exact ih_lp_about _ _ _ ⟨(x1 + 1), (k + 1), (by omega), (by omega), hP, hD, hS, (lv_sub hl [1, 0, 2, 3, 4] rfl), hf⟩
    replace hf := hf.trans (if_neg e3)
    by_cases e6 : what = 3
    · replace hf := hf.trans (if_pos e6)
      refine lv_tableIn (off := 102) (tgt := 120) hx hb dX9_about_18 (by rw [e6]; decide) (by rw [e6]; decide) (by rw [e6]; decide) (by decide) ?_
      refine lv_aload_n hx hb dX9_about_120 rfl (lv_at hl 1 rfl) ?_
      refine va_get (D := D) (ci := 10) (v := .ref (a 13)) (C := RX9) (T := TX9) (N := 45) hx hb hts im_X9_about_X9 hown hE.1 hP 0 rfl rfl 13 (by decide) (hts (.fieldLink RX9 38 "RiverBridgesModel" "waits" "[I") (by decide +kernel)) (fun _ h9 => h9) rfl dX9_about_121 ?_
      refine lv_iload_n hx hb dX9_about_124 rfl (lv_at hl 2 rfl) ?_
      refine lx_iald (v := u.2.2 13 b.toNatClampNeg) hx hb hE.1 hP 10 0 rfl rfl (by assumption) (rfl) dX9_about_125 ?_
      exact ss_iret () hx hb hr hlocks (by rw [hf]; exact hP) (by rw [hf]; exact hD) hS (by rw [hf]) (Nat.le_of_ble_eq_true rfl) (Nat.le_of_ble_eq_true rfl) dX9_about_126
    replace hf := hf.trans (if_neg e6)
    by_cases e7 : what = 4
    · replace hf := hf.trans (if_pos e7)
      refine lv_tableIn (off := 109) (tgt := 127) hx hb dX9_about_18 (by rw [e7]; decide) (by rw [e7]; decide) (by rw [e7]; decide) (by decide) ?_
      refine lv_aload_n hx hb dX9_about_127 rfl (lv_at hl 1 rfl) ?_
      refine va_get (D := D) (ci := 10) (v := .ref (a 14)) (C := RX9) (T := TX9) (N := 45) hx hb hts im_X9_about_X9 hown hE.1 hP 0 rfl rfl 14 (by decide) (hts (.fieldLink RX9 41 "RiverBridgesModel" "opened" "[I") (by decide +kernel)) (fun _ h9 => h9) rfl dX9_about_128 ?_
      refine lv_iload_n hx hb dX9_about_131 rfl (lv_at hl 2 rfl) ?_
      refine lx_iald (v := u.2.2 14 b.toNatClampNeg) hx hb hE.1 hP 11 0 rfl rfl (by assumption) (rfl) dX9_about_132 ?_
      exact ss_iret () hx hb hr hlocks (by rw [hf]; exact hP) (by rw [hf]; exact hD) hS (by rw [hf]) (Nat.le_of_ble_eq_true rfl) (Nat.le_of_ble_eq_true rfl) dX9_about_133
    replace hf := hf.trans (if_neg e7)
    by_cases e8 : what = 5
    · replace hf := hf.trans (if_pos e8)
      refine lv_tableIn (off := 116) (tgt := 134) hx hb dX9_about_18 (by rw [e8]; decide) (by rw [e8]; decide) (by rw [e8]; decide) (by decide) ?_
      refine lv_aload_n hx hb dX9_about_134 rfl (lv_at hl 1 rfl) ?_
      refine va_get (D := D) (ci := 10) (v := .ref (a 15)) (C := RX9) (T := TX9) (N := 45) hx hb hts im_X9_about_X9 hown hE.1 hP 0 rfl rfl 15 (by decide) (hts (.fieldLink RX9 44 "RiverBridgesModel" "waited" "[I") (by decide +kernel)) (fun _ h9 => h9) rfl dX9_about_135 ?_
      refine lv_iload_n hx hb dX9_about_138 rfl (lv_at hl 2 rfl) ?_
      refine lx_iald (v := u.2.2 15 b.toNatClampNeg) hx hb hE.1 hP 12 0 rfl rfl (by assumption) (rfl) dX9_about_139 ?_
      exact ss_iret () hx hb hr hlocks (by rw [hf]; exact hP) (by rw [hf]; exact hD) hS (by rw [hf]) (Nat.le_of_ble_eq_true rfl) (Nat.le_of_ble_eq_true rfl) dX9_about_140
    replace hf := hf.trans (if_neg e8)
    have ge1 := lv_neT e1 (a := 0) (by decide)
    have ge2 := lv_neT e2 (a := 1) (by decide)
    have ge3 := lv_neT e3 (a := 2) (by decide)
    have ge6 := lv_neT e6 (a := 3) (by decide)
    have ge7 := lv_neT e7 (a := 4) (by decide)
    have ge8 := lv_neT e8 (a := 5) (by decide)
    refine lv_tableOut (tgt := 141) hx hb dX9_about_18 (by omega) (by decide) ?_
    refine lv_iconst (v := -1) hx hb dX9_about_141 (by decide) ?_
    exact ss_iret () hx hb hr hlocks (by rw [hf]; exact hP) (by rw [hf]; exact hD) hS (by rw [hf]) (Nat.le_of_ble_eq_true rfl) (Nat.le_of_ble_eq_true rfl) dX9_about_142
  · replace hf := hf.trans (if_pos cb)
    refine lv_iconst (v := -1) hx hb dX9_about_13 (by decide) ?_
    exact ss_iret () hx hb hr hlocks (by rw [hf]; exact hP) (by rw [hf]; exact hD) hS (by rw [hf]) (Nat.le_of_ble_eq_true rfl) (Nat.le_of_ble_eq_true rfl) dX9_about_14
def lp_count4 (u : RS) : Nat → Int32 → Nat → Int32
  | 0, x1, k => x1
  | n + 1, x1, k => (if u.1 40 ≤ nI k then x1 else (if u.2.2 32 k = 3 then (lp_count4 u n (x1 + 1) (k + 1)) else (lp_count4 u n (x1 + 0) (k + 1))))
theorem lp_count4_s (u : RS) (n : Nat) (x1 : Int32) (k : Nat) : lp_count4 u (n + 1) x1 k = (if u.1 40 ≤ nI k then x1 else (if u.2.2 32 k = 3 then (lp_count4 u n (x1 + 1) (k + 1)) else (lp_count4 u n (x1 + 0) (k + 1)))) := rfl
def lp_count5 (u : RS) : Nat → Int32 → Nat → Int32
  | 0, x1, k => x1
  | n + 1, x1, k => (if u.1 40 ≤ nI k then x1 else (if u.2.2 36 k ≤ x1 then (lp_count5 u n x1 (k + 1)) else (lp_count5 u n (u.2.2 36 k) (k + 1))))
theorem lp_count5_s (u : RS) (n : Nat) (x1 : Int32) (k : Nat) : lp_count5 u (n + 1) x1 k = (if u.1 40 ≤ nI k then x1 else (if u.2.2 36 k ≤ x1 then (lp_count5 u n x1 (k + 1)) else (lp_count5 u n (u.2.2 36 k) (k + 1)))) := rfl
def f_count (u : RS) (what : Int32) : Int32 × RS := (if what = 0 then (u.1 18, (sg u 0 0)) else (if what = 1 then (u.1 17, (sg u 0 0)) else (if what = 2 then (u.1 40, (sg u 0 0)) else (if what = 3 then (u.1 44, (sg u 0 0)) else (if what = 4 then ((lp_count4 u 41 0 0), (sg u 0 0)) else (if what = 5 then ((lp_count5 u 41 0 0), (sg u 0 0)) else (if what = 6 then (u.1 2, (sg u 0 0)) else (-1, (sg u 0 0)))))))))
theorem f_count_s (u : RS) (what : Int32) : f_count u what = (if what = 0 then (u.1 18, (sg u 0 0)) else (if what = 1 then (u.1 17, (sg u 0 0)) else (if what = 2 then (u.1 40, (sg u 0 0)) else (if what = 3 then (u.1 44, (sg u 0 0)) else (if what = 4 then ((lp_count4 u 41 0 0), (sg u 0 0)) else (if what = 5 then ((lp_count5 u 41 0 0), (sg u 0 0)) else (if what = 6 then (u.1 2, (sg u 0 0)) else (-1, (sg u 0 0))))))))) := rfl
theorem im_X9_count_X9 : ∀ w ∈ wsX90, w ∈ wsX9_count := fun _ h => List.mem_cons_of_mem _ (List.mem_append_right _ h)
set_option maxHeartbeats 400000 in
set_option maxRecDepth 100000 in
theorem m_count (l : Launch) (D : va_G) (cI cZ cB cO cJ : ClassId) (a0 sz : Nat) (a : Nat → Nat) (nB nS nK mi ln : Nat) (u : RS) (what : Int32) (hI : MI nB nS nK mi ln u) : Met l yX9_count wsX9_count ({ frames := 0, cells := 0, slots := 0, locals := 0 }) (Pcs D cI cZ cB cO cJ a0 [.ref (a 45), .int what] (WM cI cZ cB a u) sz) (va_Qi (fun (r : Int32) (_ : Unit) => r = (f_count u what).1) (fun (_ : Unit) t => va_P D vwCl (WM cI cZ cB a (f_count u what).2) t.heap ∧ va_D (va_A (WM cI cZ cB a u) sz) (WM cI cZ cB a (f_count u what).2)) (va_A (WM cI cZ cB a u) sz)) 0 0 (va_A (WM cI cZ cB a u) sz) := by
  refine Met.ofW (cc := cX9_count) (maxL := 4) (ret := (some .int)) (by decide) rfl ?_
  intro p e s m args below meth c s₁ B hml hv
  obtain ⟨rfl, hsz, hP, hE, hD0, hZ⟩ := hv
  have hx := B.exec
  have hb := B.bytes
  have hr := B.returns
  have hts := atoms_spec (ws := wsX9_count) B.pre
  have hown : s.vm.findClass RX9 = some m.cls := findClass_of_methodNamed B.named
  have hlocks := B.notSynchronized
  subst hsz
  have hD := hD0.self (sz := s.heap.size)
  generalize hAe : va_A (WM cI cZ cB a u) s.heap.size = A at hD hZ ⊢
  have hA : ∀ q : Nat, s.heap.size ≤ q → A q := fun q h => by rw [← hAe]; exact Or.inr h
  clear hAe
  have hS : va_S A s.heap s.heap [] := va_S.rf
  have hP : va_P D vwCl (WM cI cZ cB a u) s.heap := hP
  have hl := lv_entry ([.ref (a 45), .int what]) (n := 4) (Nat.le_of_ble_eq_true rfl)
  rw [lg_entry_eq]
  generalize (lg_sl ([.ref (a 45), .int what]) ++ List.replicate (4 - (lg_sl ([.ref (a 45), .int what])).length) Slot.unset).toArray = ls at hl ⊢
  have hl : lv_has ls 4 [(0, .ref (a 45)), (1, .int what)] := hl
  have hf := f_count_s u what
  refine lv_aload_n hx hb dX9_count_0 rfl (lv_at hl 0 rfl) ?_
  refine lv_iconst (v := 0) hx hb dX9_count_1 (by decide) ?_
  refine va_put (D := D) (ci := 10) (v := .int 0) (ty := .int) (C := RX9) (T := TX9) (N := 45) hx hb hts im_X9_count_X9 tyX9 tyX9_ok nmX9 hown hE.1 hP hD hS 0 rfl rfl 0 (by decide) (hts (.fieldLink RX9 103 "RiverBridgesModel" "thrown" "I") (by decide +kernel)) (fun _ h9 => h9) rfl (by decide +kernel) rfl rfl (Nat.le_of_ble_eq_true rfl) dX9_count_2 (fun H locs hP hD hS => ?_)
  have hP := va_P_eq (WM_g0 cI cZ cB a u 0) hP
  have hD := va_D_eq (WM_g0 cI cZ cB a u 0) hD
  refine lv_iconst (v := 0) hx hb dX9_count_5 (by decide) ?_
  refine lv_istore_n (lv' := [(2, .int 0), (0, .ref (a 45)), (1, .int what)]) hx hb dX9_count_6 rfl hl (by decide) rfl (fun ls hl => ?_)
  refine lv_iload_n hx hb dX9_count_7 rfl (lv_at hl 2 rfl) ?_
  have hI0 := MI_sg (k := 0) (v := 0) hI (by decide)
  by_cases e1 : what = 0
  · replace hf := hf.trans (if_pos e1)
    refine lv_tableIn (off := 44) (tgt := 52) hx hb dX9_count_8 (by rw [e1]; decide) (by rw [e1]; decide) (by rw [e1]; decide) (by decide) ?_
    refine lv_aload_n hx hb dX9_count_52 rfl (lv_at hl 1 rfl) ?_
    refine va_get (D := D) (ci := 10) (v := .int (u.1 18)) (C := RX9) (T := TX9) (N := 45) hx hb hts im_X9_count_X9 hown hE.1 hP 0 rfl rfl 18 (by decide) (hts (.fieldLink RX9 122 "RiverBridgesModel" "minute" "I") (by decide +kernel)) (fun _ h9 => h9) rfl dX9_count_53 ?_
    exact ss_iret () hx hb hr hlocks (by rw [hf]; exact hP) (by rw [hf]; exact hD) hS (by rw [hf]) (Nat.le_of_ble_eq_true rfl) (Nat.le_of_ble_eq_true rfl) dX9_count_56
  replace hf := hf.trans (if_neg e1)
  by_cases e2 : what = 1
  · replace hf := hf.trans (if_pos e2)
    refine lv_tableIn (off := 49) (tgt := 57) hx hb dX9_count_8 (by rw [e2]; decide) (by rw [e2]; decide) (by rw [e2]; decide) (by decide) ?_
    refine lv_aload_n hx hb dX9_count_57 rfl (lv_at hl 1 rfl) ?_
    refine va_get (D := D) (ci := 10) (v := .int (u.1 17)) (C := RX9) (T := TX9) (N := 45) hx hb hts im_X9_count_X9 hown hE.1 hP 0 rfl rfl 17 (by decide) (hts (.fieldLink RX9 119 "RiverBridgesModel" "bridges" "I") (by decide +kernel)) (fun _ h9 => h9) rfl dX9_count_58 ?_
    exact ss_iret () hx hb hr hlocks (by rw [hf]; exact hP) (by rw [hf]; exact hD) hS (by rw [hf]) (Nat.le_of_ble_eq_true rfl) (Nat.le_of_ble_eq_true rfl) dX9_count_61
  replace hf := hf.trans (if_neg e2)
  by_cases e3 : what = 2
  · replace hf := hf.trans (if_pos e3)
    refine lv_tableIn (off := 54) (tgt := 62) hx hb dX9_count_8 (by rw [e3]; decide) (by rw [e3]; decide) (by rw [e3]; decide) (by decide) ?_
    refine lv_aload_n hx hb dX9_count_62 rfl (lv_at hl 1 rfl) ?_
    refine va_get (D := D) (ci := 10) (v := .int (u.1 40)) (C := RX9) (T := TX9) (N := 45) hx hb hts im_X9_count_X9 hown hE.1 hP 0 rfl rfl 40 (by decide) (hts (.fieldLink RX9 208 "RiverBridgesModel" "ships" "I") (by decide +kernel)) (fun _ h9 => h9) rfl dX9_count_63 ?_
    exact ss_iret () hx hb hr hlocks (by rw [hf]; exact hP) (by rw [hf]; exact hD) hS (by rw [hf]) (Nat.le_of_ble_eq_true rfl) (Nat.le_of_ble_eq_true rfl) dX9_count_66
  replace hf := hf.trans (if_neg e3)
  by_cases e4 : what = 3
  · replace hf := hf.trans (if_pos e4)
    refine lv_tableIn (off := 59) (tgt := 67) hx hb dX9_count_8 (by rw [e4]; decide) (by rw [e4]; decide) (by rw [e4]; decide) (by decide) ?_
    refine lv_aload_n hx hb dX9_count_67 rfl (lv_at hl 1 rfl) ?_
    refine va_get (D := D) (ci := 10) (v := .int (u.1 44)) (C := RX9) (T := TX9) (N := 45) hx hb hts im_X9_count_X9 hown hE.1 hP 0 rfl rfl 44 (by decide) (hts (.fieldLink RX9 215 "RiverBridgesModel" "keepers" "I") (by decide +kernel)) (fun _ h9 => h9) rfl dX9_count_68 ?_
    exact ss_iret () hx hb hr hlocks (by rw [hf]; exact hP) (by rw [hf]; exact hD) hS (by rw [hf]) (Nat.le_of_ble_eq_true rfl) (Nat.le_of_ble_eq_true rfl) dX9_count_71
  replace hf := hf.trans (if_neg e4)
  by_cases e5 : what = 4
  · replace hf := hf.trans (if_pos e5)
    refine lv_tableIn (off := 64) (tgt := 72) hx hb dX9_count_8 (by rw [e5]; decide) (by rw [e5]; decide) (by rw [e5]; decide) (by decide) ?_
    refine lv_iconst (v := 0) hx hb dX9_count_72 (by decide) ?_
    refine lv_istore_n (lv' := [(3, .int 0), (2, .int 0), (0, .ref (a 45)), (1, .int what)]) hx hb dX9_count_73 rfl hl (by decide) rfl (fun ls hl => ?_)
    have hf_lp_count4 := hf
    refine ss_ind (J := fun n H locs ls => ∃ (x1 : Int32) (k : Nat), (k + n = 41) ∧ (k ≤ nS) ∧ va_P D vwCl (WM cI cZ cB a (sg u 0 0)) H ∧ va_D A (WM cI cZ cB a (sg u 0 0)) ∧ va_S A s.heap H locs ∧ lv_has ls 4 [(2, .int x1), (3, .int (nI k)), (0, .ref (a 45)), (1, .int what)] ∧ lp_count4 u 41 0 0 = lp_count4 u n x1 k) ?_ ?_ (41) _ _ _ ⟨0, 0, (rfl), (Nat.zero_le _), hP, hD, hS, (lv_sub hl [1, 0, 2, 3] rfl), rfl⟩
    all_goals clear hf
    · intro H locs ls hJ
      obtain ⟨x1, k, hkn, hkw, hP, hD, hS, hl, hf⟩ := hJ
      have := hI.nS.2; omega
    · intro n_lp_count4 ih_lp_count4 H locs ls hJ
      obtain ⟨x1, k, hkn, hkw, hP, hD, hS, hl, hf⟩ := hJ
      replace hf := hf.trans (lp_count4_s _ n_lp_count4 _ _)
      refine lv_iload_n hx hb dX9_count_74 rfl (lv_at hl 1 rfl) ?_
      refine lv_aload_n hx hb dX9_count_75 rfl (lv_at hl 2 rfl) ?_
      refine va_get (D := D) (ci := 10) (v := .int (u.1 40)) (C := RX9) (T := TX9) (N := 45) hx hb hts im_X9_count_X9 hown hE.1 hP 0 rfl rfl 40 (by decide) (hts (.fieldLink RX9 208 "RiverBridgesModel" "ships" "I") (by decide +kernel)) (fun _ h9 => h9) rfl dX9_count_76 ?_
      refine lv_icmp_ge (tgt := 106) hx hb dX9_count_79 (by decide) (fun ck => ?_) (fun ck => ?_)
      · replace hf := hf.trans (if_pos ck)
        have e90 : (lp_count4 u 41 0 0) = x1 := by rw [hf]
        clear hf
        have hf := hf_lp_count4
        try rw [e90] at hf
        clear ih_lp_count4 e90
        have hl : lv_has ls 4 [(2, .int x1), (0, .ref (a 45)), (1, .int what)] := lv_sub hl [0, 2, 3] rfl
        refine lv_iload_n hx hb dX9_count_106 rfl (lv_at hl 0 rfl) ?_
        exact ss_iret () hx hb hr hlocks (by rw [hf]; exact hP) (by rw [hf]; exact hD) hS (by rw [hf]) (Nat.le_of_ble_eq_true rfl) (Nat.le_of_ble_eq_true rfl) dX9_count_107
      · replace hf := hf.trans (if_neg ck)
        have hk : k < nS := nltI hI0.nS.1 (by have := hI0.nS.2; omega) (by omega) ck
        have i2 : vp_in (nI k) 40 := vp_in_nI (by have := hI0.nS.2; omega) (by omega)
        refine lv_iload_n hx hb dX9_count_82 rfl (lv_at hl 0 rfl) ?_
        refine lv_aload_n hx hb dX9_count_83 rfl (lv_at hl 2 rfl) ?_
        refine va_get (D := D) (ci := 10) (v := .ref (a 32)) (C := RX9) (T := TX9) (N := 45) hx hb hts im_X9_count_X9 hown hE.1 hP 0 rfl rfl 32 (by decide) (hts (.fieldLink RX9 70 "RiverBridgesModel" "ship" "[I") (by decide +kernel)) (fun _ h9 => h9) rfl dX9_count_84 ?_
        refine lv_iload_n hx hb dX9_count_87 rfl (lv_at hl 1 rfl) ?_
        refine lx_iald (v := u.2.2 32 k) hx hb hE.1 hP 19 0 rfl rfl (by assumption) (by (rw [nI_clamp (by omega)]) <;> rfl) dX9_count_88 ?_
        refine lv_iconst (v := 3) hx hb dX9_count_89 (by decide) ?_
        refine lv_icmp_ne (tgt := 97) hx hb dX9_count_90 (by decide) (fun c6 => ?_) (fun c6 => ?_)
        · replace hf := hf.trans (if_neg c6)
          refine lv_iconst (v := 0) hx hb dX9_count_97 (by decide) ?_
          refine lx_iadd (v := x1 + 0) hx hb (rfl) dX9_count_98 ?_
          refine lv_istore_n (lv' := [(2, .int (x1 + 0)), (3, .int (nI k)), (0, .ref (a 45)), (1, .int what)]) hx hb dX9_count_99 rfl hl (by decide) rfl (fun ls hl => ?_)
          refine lv_iinc (v := nI (k + 1)) (lv' := [(3, .int (nI (k + 1))), (2, .int (x1 + 0)), (0, .ref (a 45)), (1, .int what)]) hx hb dX9_count_100 hl (k := 1) rfl (by first | exact nI_add _ _ | rfl) (by decide) rfl (fun ls hl => ?_)
          refine lv_goto (tgt := 74) hx hb dX9_count_103 (by decide) ?_
          exact ih_lp_count4 _ _ _ ⟨(x1 + 0), (k + 1), (by omega), (by omega), hP, hD, hS, (lv_sub hl [1, 0, 2, 3] rfl), hf⟩
        · replace hf := hf.trans (if_pos c6)
          refine lv_iconst (v := 1) hx hb dX9_count_93 (by decide) ?_
          refine lv_goto (tgt := 98) hx hb dX9_count_94 (by decide) ?_
          refine lx_iadd (v := x1 + 1) hx hb (rfl) dX9_count_98 ?_
          refine lv_istore_n (lv' := [(2, .int (x1 + 1)), (3, .int (nI k)), (0, .ref (a 45)), (1, .int what)]) hx hb dX9_count_99 rfl hl (by decide) rfl (fun ls hl => ?_)
          refine lv_iinc (v := nI (k + 1)) (lv' := [(3, .int (nI (k + 1))), (2, .int (x1 + 1)), (0, .ref (a 45)), (1, .int what)]) hx hb dX9_count_100 hl (k := 1) rfl (by first | exact nI_add _ _ | rfl) (by decide) rfl (fun ls hl => ?_)
          refine lv_goto (tgt := 74) hx hb dX9_count_103 (by decide) ?_
          exact ih_lp_count4 _ _ _ ⟨(x1 + 1), (k + 1), (by omega), (by omega), hP, hD, hS, (lv_sub hl [1, 0, 2, 3] rfl), hf⟩
  replace hf := hf.trans (if_neg e5)
  by_cases e7 : what = 5
  · replace hf := hf.trans (if_pos e7)
    refine lv_tableIn (off := 100) (tgt := 108) hx hb dX9_count_8 (by rw [e7]; decide) (by rw [e7]; decide) (by rw [e7]; decide) (by decide) ?_
    refine lv_iconst (v := 0) hx hb dX9_count_108 (by decide) ?_
    refine lv_istore_n (lv' := [(3, .int 0), (2, .int 0), (0, .ref (a 45)), (1, .int what)]) hx hb dX9_count_109 rfl hl (by decide) rfl (fun ls hl => ?_)
    have hf_lp_count5 := hf
    refine ss_ind (J := fun n H locs ls => ∃ (x1 : Int32) (k : Nat), (k + n = 41) ∧ (k ≤ nS) ∧ va_P D vwCl (WM cI cZ cB a (sg u 0 0)) H ∧ va_D A (WM cI cZ cB a (sg u 0 0)) ∧ va_S A s.heap H locs ∧ lv_has ls 4 [(2, .int x1), (3, .int (nI k)), (0, .ref (a 45)), (1, .int what)] ∧ lp_count5 u 41 0 0 = lp_count5 u n x1 k) ?_ ?_ (41) _ _ _ ⟨0, 0, (rfl), (Nat.zero_le _), hP, hD, hS, (lv_sub hl [1, 0, 2, 3] rfl), rfl⟩
    all_goals clear hf
    · intro H locs ls hJ
      obtain ⟨x1, k, hkn, hkw, hP, hD, hS, hl, hf⟩ := hJ
      have := hI.nS.2; omega
    · intro n_lp_count5 ih_lp_count5 H locs ls hJ
      obtain ⟨x1, k, hkn, hkw, hP, hD, hS, hl, hf⟩ := hJ
      replace hf := hf.trans (lp_count5_s _ n_lp_count5 _ _)
      refine lv_iload_n hx hb dX9_count_110 rfl (lv_at hl 1 rfl) ?_
      refine lv_aload_n hx hb dX9_count_111 rfl (lv_at hl 2 rfl) ?_
      refine va_get (D := D) (ci := 10) (v := .int (u.1 40)) (C := RX9) (T := TX9) (N := 45) hx hb hts im_X9_count_X9 hown hE.1 hP 0 rfl rfl 40 (by decide) (hts (.fieldLink RX9 208 "RiverBridgesModel" "ships" "I") (by decide +kernel)) (fun _ h9 => h9) rfl dX9_count_112 ?_
      refine lv_icmp_ge (tgt := 145) hx hb dX9_count_115 (by decide) (fun ck => ?_) (fun ck => ?_)
      · replace hf := hf.trans (if_pos ck)
        have e90 : (lp_count5 u 41 0 0) = x1 := by rw [hf]
        clear hf
        have hf := hf_lp_count5
        try rw [e90] at hf
        clear ih_lp_count5 e90
        have hl : lv_has ls 4 [(2, .int x1), (0, .ref (a 45)), (1, .int what)] := lv_sub hl [0, 2, 3] rfl
        refine lv_iload_n hx hb dX9_count_145 rfl (lv_at hl 0 rfl) ?_
        exact ss_iret () hx hb hr hlocks (by rw [hf]; exact hP) (by rw [hf]; exact hD) hS (by rw [hf]) (Nat.le_of_ble_eq_true rfl) (Nat.le_of_ble_eq_true rfl) dX9_count_146
      · replace hf := hf.trans (if_neg ck)
        have hk : k < nS := nltI hI0.nS.1 (by have := hI0.nS.2; omega) (by omega) ck
        have i2 : vp_in (nI k) 40 := vp_in_nI (by have := hI0.nS.2; omega) (by omega)
        refine lv_aload_n hx hb dX9_count_118 rfl (lv_at hl 2 rfl) ?_
        refine va_get (D := D) (ci := 10) (v := .ref (a 36)) (C := RX9) (T := TX9) (N := 45) hx hb hts im_X9_count_X9 hown hE.1 hP 0 rfl rfl 36 (by decide) (hts (.fieldLink RX9 82 "RiverBridgesModel" "waitedAt" "[I") (by decide +kernel)) (fun _ h9 => h9) rfl dX9_count_119 ?_
        refine lv_iload_n hx hb dX9_count_122 rfl (lv_at hl 1 rfl) ?_
        refine lx_iald (v := u.2.2 36 k) hx hb hE.1 hP 23 0 rfl rfl (by assumption) (by (rw [nI_clamp (by omega)]) <;> rfl) dX9_count_123 ?_
        refine lv_iload_n hx hb dX9_count_124 rfl (lv_at hl 0 rfl) ?_
        refine lv_icmp_le (tgt := 137) hx hb dX9_count_125 (by decide) (fun c8 => ?_) (fun c8 => ?_)
        · replace hf := hf.trans (if_pos c8)
          refine lv_iload_n hx hb dX9_count_137 rfl (lv_at hl 0 rfl) ?_
          refine lv_istore_n (lv' := [(2, .int x1), (3, .int (nI k)), (0, .ref (a 45)), (1, .int what)]) hx hb dX9_count_138 rfl hl (by decide) rfl (fun ls hl => ?_)
          refine lv_iinc (v := nI (k + 1)) (lv' := [(3, .int (nI (k + 1))), (2, .int x1), (0, .ref (a 45)), (1, .int what)]) hx hb dX9_count_139 hl (k := 1) rfl (by first | exact nI_add _ _ | rfl) (by decide) rfl (fun ls hl => ?_)
          refine lv_goto (tgt := 110) hx hb dX9_count_142 (by decide) ?_
          exact ih_lp_count5 _ _ _ ⟨x1, (k + 1), (by omega), (by omega), hP, hD, hS, (lv_sub hl [1, 0, 2, 3] rfl), hf⟩
        · replace hf := hf.trans (if_neg c8)
          refine lv_aload_n hx hb dX9_count_128 rfl (lv_at hl 2 rfl) ?_
          refine va_get (D := D) (ci := 10) (v := .ref (a 36)) (C := RX9) (T := TX9) (N := 45) hx hb hts im_X9_count_X9 hown hE.1 hP 0 rfl rfl 36 (by decide) (hts (.fieldLink RX9 82 "RiverBridgesModel" "waitedAt" "[I") (by decide +kernel)) (fun _ h9 => h9) rfl dX9_count_129 ?_
          refine lv_iload_n hx hb dX9_count_132 rfl (lv_at hl 1 rfl) ?_
          refine lx_iald (v := u.2.2 36 k) hx hb hE.1 hP 23 0 rfl rfl (by assumption) (by (rw [nI_clamp (by omega)]) <;> rfl) dX9_count_133 ?_
          refine lv_goto (tgt := 138) hx hb dX9_count_134 (by decide) ?_
          refine lv_istore_n (lv' := [(2, .int (u.2.2 36 k)), (3, .int (nI k)), (0, .ref (a 45)), (1, .int what)]) hx hb dX9_count_138 rfl hl (by decide) rfl (fun ls hl => ?_)
          refine lv_iinc (v := nI (k + 1)) (lv' := [(3, .int (nI (k + 1))), (2, .int (u.2.2 36 k)), (0, .ref (a 45)), (1, .int what)]) hx hb dX9_count_139 hl (k := 1) rfl (by first | exact nI_add _ _ | rfl) (by decide) rfl (fun ls hl => ?_)
          refine lv_goto (tgt := 110) hx hb dX9_count_142 (by decide) ?_
          exact ih_lp_count5 _ _ _ ⟨(u.2.2 36 k), (k + 1), (by omega), (by omega), hP, hD, hS, (lv_sub hl [1, 0, 2, 3] rfl), hf⟩
  replace hf := hf.trans (if_neg e7)
  by_cases e9 : what = 6
  · replace hf := hf.trans (if_pos e9)
    refine lv_tableIn (off := 139) (tgt := 147) hx hb dX9_count_8 (by rw [e9]; decide) (by rw [e9]; decide) (by rw [e9]; decide) (by decide) ?_
    refine lv_aload_n hx hb dX9_count_147 rfl (lv_at hl 1 rfl) ?_
    refine va_get (D := D) (ci := 10) (v := .int (u.1 2)) (C := RX9) (T := TX9) (N := 45) hx hb hts im_X9_count_X9 hown hE.1 hP 0 rfl rfl 2 (by decide) (hts (.fieldLink RX9 106 "RiverBridgesModel" "length" "I") (by decide +kernel)) (fun _ h9 => h9) rfl dX9_count_148 ?_
    exact ss_iret () hx hb hr hlocks (by rw [hf]; exact hP) (by rw [hf]; exact hD) hS (by rw [hf]) (Nat.le_of_ble_eq_true rfl) (Nat.le_of_ble_eq_true rfl) dX9_count_151
  replace hf := hf.trans (if_neg e9)
  have ge1 := lv_neT e1 (a := 0) (by decide)
  have ge2 := lv_neT e2 (a := 1) (by decide)
  have ge3 := lv_neT e3 (a := 2) (by decide)
  have ge4 := lv_neT e4 (a := 3) (by decide)
  have ge5 := lv_neT e5 (a := 4) (by decide)
  have ge7 := lv_neT e7 (a := 5) (by decide)
  have ge9 := lv_neT e9 (a := 6) (by decide)
  refine lv_tableOut (tgt := 152) hx hb dX9_count_8 (by omega) (by decide) ?_
  refine lv_iconst (v := -1) hx hb dX9_count_152 (by decide) ?_
  exact ss_iret () hx hb hr hlocks (by rw [hf]; exact hP) (by rw [hf]; exact hD) hS (by rw [hf]) (Nat.le_of_ble_eq_true rfl) (Nat.le_of_ble_eq_true rfl) dX9_count_153
