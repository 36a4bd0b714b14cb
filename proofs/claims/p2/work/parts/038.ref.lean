theorem MI_taken {nB nS nK mi ln : Nat} {u : RS} (h : MI nB nS nK mi ln u) : MI nB nS nK mi 0 (f_taken u) := by
  rw [f_taken_s]
  exact MI_sg (MI_2 (ln := ln) (MI_sg h (by decide)) ⟨rfl, by decide⟩) (by decide)
theorem TI_taken {nB nS nK mi ln : Nat} {u : RS} (h : MI nB nS nK mi ln u) : TI ln (f_taken u) := by
  rw [f_taken_s]
  exact ⟨⟨h.ln.1, h.ln.2⟩, 0, rfl, Nat.zero_le _⟩
def lp_entry  : Nat → RS → Int32 × RS
  | 0, u1 => (0, u1)
  | n + 1, u1 => (if f_isWord u1 6447474 = 0 then (if f_isWord u1 500135192942 = 0 then (if u1.1 24 = 3 then (1, (f_next u1)) else ((f_cant u1).1, (f_cant u1).2)) else (if u1.2.2 22 ((8 + (u1.1 29)).toNatClampNeg) = 12 then ((f_wrong u1 4 (u1.1 25)).1, (f_wrong u1 4 (u1.1 25)).2) else (if (f_span u1 (f_isWord u1 6447474)).1 = 0 then (0, (f_span u1 (f_isWord u1 6447474)).2) else (lp_entry  n (f_span u1 (f_isWord u1 6447474)).2)))) else (if u1.2.2 22 ((8 + (u1.1 29)).toNatClampNeg) = 12 then ((f_wrong u1 4 (u1.1 25)).1, (f_wrong u1 4 (u1.1 25)).2) else (if (f_span u1 (f_isWord u1 6447474)).1 = 0 then (0, (f_span u1 (f_isWord u1 6447474)).2) else (lp_entry  n (f_span u1 (f_isWord u1 6447474)).2))))
theorem lp_entry_s  (n : Nat) (u1 : RS) : lp_entry  (n + 1) u1 = (if f_isWord u1 6447474 = 0 then (if f_isWord u1 500135192942 = 0 then (if u1.1 24 = 3 then (1, (f_next u1)) else ((f_cant u1).1, (f_cant u1).2)) else (if u1.2.2 22 ((8 + (u1.1 29)).toNatClampNeg) = 12 then ((f_wrong u1 4 (u1.1 25)).1, (f_wrong u1 4 (u1.1 25)).2) else (if (f_span u1 (f_isWord u1 6447474)).1 = 0 then (0, (f_span u1 (f_isWord u1 6447474)).2) else (lp_entry  n (f_span u1 (f_isWord u1 6447474)).2)))) else (if u1.2.2 22 ((8 + (u1.1 29)).toNatClampNeg) = 12 then ((f_wrong u1 4 (u1.1 25)).1, (f_wrong u1 4 (u1.1 25)).2) else (if (f_span u1 (f_isWord u1 6447474)).1 = 0 then (0, (f_span u1 (f_isWord u1 6447474)).2) else (lp_entry  n (f_span u1 (f_isWord u1 6447474)).2)))) := rfl
def f_entry (u : RS) : Int32 × RS := (if f_isWord u 108243533981541 = 0 then ((f_cant u).1, (f_cant u).2) else (if (f_next u).1 24 = 2 then (if (f_next u).1 26 ≤ 7 then (if (f_next u).2.2 23 (((f_next u).1 26).toNatClampNeg) = 0 then (lp_entry  14 (f_next (sa (sg (f_next u) 29 ((f_next u).1 26)) 23 (((f_next u).1 26).toNatClampNeg) (vp_nar .boolean 1)))) else ((f_wrong (f_next u) 4 ((f_next u).1 25)).1, (f_wrong (f_next u) 4 ((f_next u).1 25)).2)) else ((f_wrong (f_next u) 3 ((f_next u).1 25)).1, (f_wrong (f_next u) 3 ((f_next u).1 25)).2)) else ((f_cant (f_next u)).1, (f_cant (f_next u)).2)))
theorem f_entry_s (u : RS) : f_entry u = (if f_isWord u 108243533981541 = 0 then ((f_cant u).1, (f_cant u).2) else (if (f_next u).1 24 = 2 then (if (f_next u).1 26 ≤ 7 then (if (f_next u).2.2 23 (((f_next u).1 26).toNatClampNeg) = 0 then (lp_entry  14 (f_next (sa (sg (f_next u) 29 ((f_next u).1 26)) 23 (((f_next u).1 26).toNatClampNeg) (vp_nar .boolean 1)))) else ((f_wrong (f_next u) 4 ((f_next u).1 25)).1, (f_wrong (f_next u) 4 ((f_next u).1 25)).2)) else ((f_wrong (f_next u) 3 ((f_next u).1 25)).1, (f_wrong (f_next u) 3 ((f_next u).1 25)).2)) else ((f_cant (f_next u)).1, (f_cant (f_next u)).2))) := rfl
theorem im_X9_entry_X9 : ∀ w ∈ wsX90, w ∈ wsX9_entry := fun _ h => List.mem_cons_of_mem _ (List.mem_append_right _ h)
set_option maxHeartbeats 400000 in
set_option maxRecDepth 100000 in
theorem m_entry (l : Launch) (D : va_G) (cI cZ cB cO cJ : ClassId) (a0 sz : Nat) (a : Nat → Nat) (nB nS nK mi ln : Nat) (zt : Nat) (u : RS) (hI : MI nB nS nK mi ln u) (hT : TI zt u) : Met l yX9_entry wsX9_entry ({ frames := 3, cells := 0, slots := 0, locals := 68 }) (Pcs D cI cZ cB cO cJ a0 [.ref (a 45)] (WM cI cZ cB a u) sz) (va_Qi (fun (r : Int32) (_ : Unit) => r = (f_entry u).1) (fun (_ : Unit) t => va_P D vwCl (WM cI cZ cB a (f_entry u).2) t.heap ∧ va_D (va_A (WM cI cZ cB a u) sz) (WM cI cZ cB a (f_entry u).2)) (va_A (WM cI cZ cB a u) sz)) 0 0 (va_A (WM cI cZ cB a u) sz) := by
  refine Met.ofW (cc := cX9_entry) (maxL := 1) (ret := (some .boolean)) (by decide) rfl ?_
  intro p e s m args below meth c s₁ B hml hv
  obtain ⟨rfl, hsz, hP, hE, hD0, hZ⟩ := hv
  have hx := B.exec
  have hb := B.bytes
  have hr := B.returns
  have hts := atoms_spec (ws := wsX9_entry) B.pre
  have hown : s.vm.findClass RX9 = some m.cls := findClass_of_methodNamed B.named
  have hlocks := B.notSynchronized
  subst hsz
  have hD := hD0.self (sz := s.heap.size)
  generalize hAe : va_A (WM cI cZ cB a u) s.heap.size = A at hD hZ ⊢
  have hA : ∀ q : Nat, s.heap.size ≤ q → A q := fun q h => by rw [← hAe]; exact Or.inr h
  clear hAe
  have hS : va_S A s.heap s.heap [] := va_S.rf
  have hP : va_P D vwCl (WM cI cZ cB a u) s.heap := hP
  have hl := lv_entry ([.ref (a 45)]) (n := 1) (Nat.le_of_ble_eq_true rfl)
  rw [lg_entry_eq]
  generalize (lg_sl ([.ref (a 45)]) ++ List.replicate (1 - (lg_sl ([.ref (a 45)])).length) Slot.unset).toArray = ls at hl ⊢
  have hl : lv_has ls 1 [(0, .ref (a 45))] := hl
  have hf := f_entry_s u
  refine lv_aload_n hx hb dX9_entry_0 rfl (lv_at hl 0 rfl) ?_
  refine lv_ldc2 (v := 108243533981541) hx hb hown (hts (.constantLong RX9 180 (108243533981541)) (by decide +kernel)) dX9_entry_1 ?_
  refine sf_calli (va_runV (As := [.long 108243533981541]) (rest := []) ⟨hx, hb, hml, hown, hts⟩ (m_isWord l D cI cZ cB cO cJ a0 s.heap.size a  u 108243533981541 ) (cwV 1 hts gX9_entry_X9_isWord rfl rfl rfl (by decide +kernel) ⟨Nat.le_of_ble_eq_true rfl, Nat.le_of_ble_eq_true rfl⟩) (preV_full hE hZ hA hS hP hD (va_recv hE.1 hP (ci := 10) (q0 := 0) rfl rfl)) rfl rfl hl.1 rfl (lv_room (Nat.le_of_ble_eq_true rfl)) dX9_entry_4 ⟨Nat.le_of_ble_eq_true rfl, Nat.le_of_ble_eq_true rfl⟩) hP hD hS hA (fun r9 u9 H locs hw hP hD hS => ?_)
  subst hw
  have hP : va_P D vwCl (WM cI cZ cB a u) H := hP
  have hD : va_D A (WM cI cZ cB a u) := hD
  refine lv_if_ne (tgt := 15) hx hb dX9_entry_7 (by decide) (fun c1 => ?_) (fun c1 => ?_)
  · replace hf := hf.trans (if_neg c1)
    refine lv_aload_n hx hb dX9_entry_15 rfl (lv_at hl 0 rfl) ?_
    refine sf_callv (va_runV (As := []) (rest := []) ⟨hx, hb, hml, hown, hts⟩ (m_next l D cI cZ cB cO cJ a0 H.size a _  u  (hT)) (cwV 0 hts gX9_entry_X9_next rfl rfl rfl (by decide +kernel) ⟨Nat.le_of_ble_eq_true rfl, Nat.le_of_ble_eq_true rfl⟩) (preV_full hE hZ hA hS hP hD (va_recv hE.1 hP (ci := 10) (q0 := 0) rfl rfl)) rfl rfl hl.1 rfl (lv_room (Nat.le_of_ble_eq_true rfl)) dX9_entry_16 ⟨Nat.le_of_ble_eq_true rfl, Nat.le_of_ble_eq_true rfl⟩) hP hD hS hA (fun u9 H locs hw hP hD hS => ?_)
    have hP : va_P D vwCl (WM cI cZ cB a (f_next u)) H := hP
    have hD : va_D A (WM cI cZ cB a (f_next u)) := hD
    have hn1 := next_na hT
    generalize ev2 : f_next u = v2 at hP hD hf hn1 ⊢
    refine lv_aload_n hx hb dX9_entry_19 rfl (lv_at hl 0 rfl) ?_
    refine va_get (D := D) (ci := 10) (v := .int (v2.1 24)) (C := RX9) (T := TX9) (N := 45) hx hb hts im_X9_entry_X9 hown hE.1 hP 0 rfl rfl 24 (by decide) (hts (.fieldLink RX9 143 "RiverBridgesModel" "token" "I") (by decide +kernel)) (fun _ h9 => h9) rfl dX9_entry_20 ?_
    refine lv_iconst (v := 2) hx hb dX9_entry_23 (by decide) ?_
    refine lv_icmp_eq (tgt := 32) hx hb dX9_entry_24 (by decide) (fun ct => ?_) (fun ct => ?_)
    · replace hf := hf.trans (if_pos ct)
      refine lv_aload_n hx hb dX9_entry_32 rfl (lv_at hl 0 rfl) ?_
      refine va_get (D := D) (ci := 10) (v := .int (v2.1 26)) (C := RX9) (T := TX9) (N := 45) hx hb hts im_X9_entry_X9 hown hE.1 hP 0 rfl rfl 26 (by decide) (hts (.fieldLink RX9 157 "RiverBridgesModel" "number" "I") (by decide +kernel)) (fun _ h9 => h9) rfl dX9_entry_33 ?_
      refine lv_bipush (v := 7) hx hb dX9_entry_36 (by decide) ?_
      refine lv_icmp_le (tgt := 51) hx hb dX9_entry_38 (by decide) (fun c7 => ?_) (fun c7 => ?_)
      · replace hf := hf.trans (if_pos c7)
        have hn8 := ixN_le7 (hn1.2.2.2 ct) (by decide) c7
        have i1 := hn8.inn (N := 8) (by omega) (by omega)
        refine lv_aload_n hx hb dX9_entry_51 rfl (lv_at hl 0 rfl) ?_
        refine va_get (D := D) (ci := 10) (v := .ref (a 23)) (C := RX9) (T := TX9) (N := 45) hx hb hts im_X9_entry_X9 hown hE.1 hP 0 rfl rfl 23 (by decide) (hts (.fieldLink RX9 63 "RiverBridgesModel" "isTold" "[Z") (by decide +kernel)) (fun _ h9 => h9) rfl dX9_entry_52 ?_
        refine lv_aload_n hx hb dX9_entry_55 rfl (lv_at hl 0 rfl) ?_
        refine va_get (D := D) (ci := 10) (v := .int (v2.1 26)) (C := RX9) (T := TX9) (N := 45) hx hb hts im_X9_entry_X9 hown hE.1 hP 0 rfl rfl 26 (by decide) (hts (.fieldLink RX9 157 "RiverBridgesModel" "number" "I") (by decide +kernel)) (fun _ h9 => h9) rfl dX9_entry_56 ?_
        refine lx_zald (v := v2.2.2 23 ((v2.1 26).toNatClampNeg)) hx hb hE.1 hP 17 1 rfl rfl (by assumption) (rfl) dX9_entry_59 ?_
        refine lv_if_eq (tgt := 73) hx hb dX9_entry_60 (by decide) (fun c3 => ?_) (fun c3 => ?_)
        · replace hf := hf.trans (if_pos c3)
          refine lv_aload_n hx hb dX9_entry_73 rfl (lv_at hl 0 rfl) ?_
          refine lv_aload_n hx hb dX9_entry_74 rfl (lv_at hl 0 rfl) ?_
          refine va_get (D := D) (ci := 10) (v := .int (v2.1 26)) (C := RX9) (T := TX9) (N := 45) hx hb hts im_X9_entry_X9 hown hE.1 hP 0 rfl rfl 26 (by decide) (hts (.fieldLink RX9 157 "RiverBridgesModel" "number" "I") (by decide +kernel)) (fun _ h9 => h9) rfl dX9_entry_75 ?_
          refine va_put (D := D) (ci := 10) (v := .int (v2.1 26)) (ty := .int) (C := RX9) (T := TX9) (N := 45) hx hb hts im_X9_entry_X9 tyX9 tyX9_ok nmX9 hown hE.1 hP hD hS 0 rfl rfl 29 (by decide) (hts (.fieldLink RX9 189 "RiverBridgesModel" "of" "I") (by decide +kernel)) (fun _ h9 => h9) rfl (by decide +kernel) rfl rfl (Nat.le_of_ble_eq_true rfl) dX9_entry_78 (fun H locs hP hD hS => ?_)
          have hP := va_P_eq (WM_g29 cI cZ cB a v2 (v2.1 26)) hP
          have hD := va_D_eq (WM_g29 cI cZ cB a v2 (v2.1 26)) hD
          refine lv_aload_n hx hb dX9_entry_81 rfl (lv_at hl 0 rfl) ?_
          refine va_get (D := D) (ci := 10) (v := .ref (a 23)) (C := RX9) (T := TX9) (N := 45) hx hb hts im_X9_entry_X9 hown hE.1 hP 0 rfl rfl 23 (by decide) (hts (.fieldLink RX9 63 "RiverBridgesModel" "isTold" "[Z") (by decide +kernel)) (fun _ h9 => h9) rfl dX9_entry_82 ?_
          refine lv_aload_n hx hb dX9_entry_85 rfl (lv_at hl 0 rfl) ?_
          refine va_get (D := D) (ci := 10) (v := .int (v2.1 26)) (C := RX9) (T := TX9) (N := 45) hx hb hts im_X9_entry_X9 hown hE.1 hP 0 rfl rfl 29 (by decide) (hts (.fieldLink RX9 189 "RiverBridgesModel" "of" "I") (by decide +kernel)) (fun _ h9 => h9) rfl dX9_entry_86 ?_
          refine lv_iconst (v := 1) hx hb dX9_entry_89 (by decide) ?_
          refine lx_zast (g := upd (v2.2.2 23) ((v2.1 26).toNatClampNeg) (vp_nar .boolean 1)) hx hb hE.1 hP hD hS 17 1 rfl rfl (by assumption) (rfl) dX9_entry_90 (fun H locs hP hD hS => ?_)
          have hP := va_P_eq (WM_a23 cI cZ cB a (sg v2 29 (v2.1 26)) ((v2.1 26).toNatClampNeg) (vp_nar .boolean 1)) hP
          have hD := va_D_eq (WM_a23 cI cZ cB a (sg v2 29 (v2.1 26)) ((v2.1 26).toNatClampNeg) (vp_nar .boolean 1)) hD
          refine lv_aload_n hx hb dX9_entry_91 rfl (lv_at hl 0 rfl) ?_
          refine sf_callv (va_runV (As := []) (rest := []) ⟨hx, hb, hml, hown, hts⟩ (m_next l D cI cZ cB cO cJ a0 H.size a _  (sa (sg v2 29 (v2.1 26)) 23 ((v2.1 26).toNatClampNeg) (vp_nar .boolean 1))  (TI_sa (TI_sg hn1.1 (by decide)))) (cwV 0 hts gX9_entry_X9_next rfl rfl rfl (by decide +kernel) ⟨Nat.le_of_ble_eq_true rfl, Nat.le_of_ble_eq_true rfl⟩) (preV_full hE hZ hA hS hP hD (va_recv hE.1 hP (ci := 10) (q0 := 0) rfl rfl)) rfl rfl hl.1 rfl (lv_room (Nat.le_of_ble_eq_true rfl)) dX9_entry_92 ⟨Nat.le_of_ble_eq_true rfl, Nat.le_of_ble_eq_true rfl⟩) hP hD hS hA (fun u9 H locs hw hP hD hS => ?_)
          have hP : va_P D vwCl (WM cI cZ cB a (f_next (sa (sg v2 29 (v2.1 26)) 23 ((v2.1 26).toNatClampNeg) (vp_nar .boolean 1)))) H := hP
          have hD : va_D A (WM cI cZ cB a (f_next (sa (sg v2 29 (v2.1 26)) 23 ((v2.1 26).toNatClampNeg) (vp_nar .boolean 1)))) := hD
          have hn2 : NA zt (sa (sg v2 29 (v2.1 26)) 23 ((v2.1 26).toNatClampNeg) (vp_nar .boolean 1)) (f_next (sa (sg v2 29 (v2.1 26)) 23 ((v2.1 26).toNatClampNeg) (vp_nar .boolean 1))) := next_na (TI_sa (TI_sg hn1.1 (by decide)))
          generalize ev4 : f_next (sa (sg v2 29 (v2.1 26)) 23 ((v2.1 26).toNatClampNeg) (vp_nar .boolean 1)) = v4 at hP hD hf hn2 ⊢
          have hIs : MI nB nS nK mi ln v4 := NX_MI hn2.2.1 (MI_sa (MI_sg (NX_MI hn1.2.1 hI) (by decide)) (by decide))
          have hofs : ixN (v4.1 29) 8 := by rw [hn2.2.1.2 29 (by decide) (by decide) (by decide) (by decide)]; exact hn8
          obtain ⟨c0, hc0, ec0⟩ := hIs.spans _ (at_add8 hofs)
          refine ss_ind (J := fun n H locs ls => ∃ (u1 : RS), (MI nB nS nK mi ln u1) ∧ (TI zt u1) ∧ (ixN (u1.1 29) 8) ∧ (∃ cn : Nat, u1.2.2 22 (8 + u1.1 29).toNatClampNeg = nI cn ∧ cn ≤ 12 ∧ 14 ≤ cn + n) ∧ va_P D vwCl (WM cI cZ cB a u1) H ∧ va_D A (WM cI cZ cB a u1) ∧ va_S A s.heap H locs ∧ lv_has ls 1 [(0, .ref (a 45))] ∧ f_entry u = lp_entry  n u1) ?_ ?_ (14) _ _ _ ⟨v4, (hIs), (hn2.1), (hofs), (⟨c0, ec0, by omega, by omega⟩), hP, hD, hS, (lv_sub hl [0] rfl), hf⟩
          · intro H locs ls hJ
            obtain ⟨u1, hI1, hT1, hof1, hc, hP, hD, hS, hl, hf⟩ := hJ
            obtain ⟨cn, _, h1, h2⟩ := hc; omega
          · intro n_lp_entry ih_lp_entry H locs ls hJ
            obtain ⟨u1, hI1, hT1, hof1, hc, hP, hD, hS, hl, hf⟩ := hJ
            replace hf := hf.trans (lp_entry_s  n_lp_entry _)
            obtain ⟨cn, ec, hc1, hc2⟩ := hc
            have ia := ix_add8 hof1
            refine lv_aload_n hx hb dX9_entry_95 rfl (lv_at hl 0 rfl) ?_
            refine lv_ldc2 (v := 6447474) hx hb hown (hts (.constantLong RX9 192 (6447474)) (by decide +kernel)) dX9_entry_96 ?_
            refine sf_calli (va_runV (As := [.long 6447474]) (rest := []) ⟨hx, hb, hml, hown, hts⟩ (m_isWord l D cI cZ cB cO cJ a0 H.size a  u1 6447474 ) (cwV 1 hts gX9_entry_X9_isWord rfl rfl rfl (by decide +kernel) ⟨Nat.le_of_ble_eq_true rfl, Nat.le_of_ble_eq_true rfl⟩) (preV_full hE hZ hA hS hP hD (va_recv hE.1 hP (ci := 10) (q0 := 0) rfl rfl)) rfl rfl hl.1 rfl (lv_room (Nat.le_of_ble_eq_true rfl)) dX9_entry_99 ⟨Nat.le_of_ble_eq_true rfl, Nat.le_of_ble_eq_true rfl⟩) hP hD hS hA (fun r9 u9 H locs hw hP hD hS => ?_)
            subst hw
            have hP : va_P D vwCl (WM cI cZ cB a u1) H := hP
            have hD : va_D A (WM cI cZ cB a u1) := hD
            refine lv_if_ne (tgt := 115) hx hb dX9_entry_102 (by decide) (fun c5 => ?_) (fun c5 => ?_)
            · replace hf := hf.trans (if_neg c5)
              refine lv_aload_n hx hb dX9_entry_115 rfl (lv_at hl 0 rfl) ?_
              refine va_get (D := D) (ci := 10) (v := .ref (a 22)) (C := RX9) (T := TX9) (N := 45) hx hb hts im_X9_entry_X9 hown hE.1 hP 0 rfl rfl 22 (by decide) (hts (.fieldLink RX9 60 "RiverBridgesModel" "spans" "[I") (by decide +kernel)) (fun _ h9 => h9) rfl dX9_entry_116 ?_
              refine lv_bipush (v := 8) hx hb dX9_entry_119 (by decide) ?_
              refine lv_aload_n hx hb dX9_entry_121 rfl (lv_at hl 0 rfl) ?_
              refine va_get (D := D) (ci := 10) (v := .int (u1.1 29)) (C := RX9) (T := TX9) (N := 45) hx hb hts im_X9_entry_X9 hown hE.1 hP 0 rfl rfl 29 (by decide) (hts (.fieldLink RX9 189 "RiverBridgesModel" "of" "I") (by decide +kernel)) (fun _ h9 => h9) rfl dX9_entry_122 ?_
              refine lx_iadd (v := 8 + (u1.1 29)) hx hb (rfl) dX9_entry_125 ?_
              refine lx_iald (v := u1.2.2 22 ((8 + (u1.1 29)).toNatClampNeg)) hx hb hE.1 hP 16 0 rfl rfl (by assumption) (rfl) dX9_entry_126 ?_
              refine lv_bipush (v := 12) hx hb dX9_entry_127 (by decide) ?_
              refine lv_icmp_ne (tgt := 142) hx hb dX9_entry_129 (by decide) (fun c12 => ?_) (fun c12 => ?_)
              · replace hf := hf.trans (if_neg c12)
                have hcl := hne ec hc1 c12
                have hsp : ixN (u1.2.2 22 (8 + u1.1 29).toNatClampNeg) 12 := ⟨cn, hcl, ec⟩
                refine lv_aload_n hx hb dX9_entry_142 rfl (lv_at hl 0 rfl) ?_
                refine lv_aload_n hx hb dX9_entry_143 rfl (lv_at hl 0 rfl) ?_
                refine lv_ldc2 (v := 6447474) hx hb hown (hts (.constantLong RX9 192 (6447474)) (by decide +kernel)) dX9_entry_144 ?_
                refine sf_calli (va_runV (As := [.long 6447474]) (rest := [.ref (a 45)]) ⟨hx, hb, hml, hown, hts⟩ (m_isWord l D cI cZ cB cO cJ a0 H.size a  u1 6447474 ) (cwV 1 hts gX9_entry_X9_isWord rfl rfl rfl (by decide +kernel) ⟨Nat.le_of_ble_eq_true rfl, Nat.le_of_ble_eq_true rfl⟩) (preV_full hE hZ hA hS hP hD (va_recv hE.1 hP (ci := 10) (q0 := 0) rfl rfl)) rfl rfl hl.1 rfl (lv_room (Nat.le_of_ble_eq_true rfl)) dX9_entry_147 ⟨Nat.le_of_ble_eq_true rfl, Nat.le_of_ble_eq_true rfl⟩) hP hD hS hA (fun r9 u9 H locs hw hP hD hS => ?_)
                subst hw
                have hP : va_P D vwCl (WM cI cZ cB a u1) H := hP
                have hD : va_D A (WM cI cZ cB a u1) := hD
                refine sf_calli (va_runV (As := [.int (f_isWord u1 6447474)]) (rest := []) ⟨hx, hb, hml, hown, hts⟩ (m_span l D cI cZ cB cO cJ a0 H.size a _  u1 (f_isWord u1 6447474) (hT1) (hof1) (hsp)) (cwV 1 hts gX9_entry_X9_span rfl rfl rfl (by decide +kernel) ⟨Nat.le_of_ble_eq_true rfl, Nat.le_of_ble_eq_true rfl⟩) (preV_full hE hZ hA hS hP hD (va_recv hE.1 hP (ci := 10) (q0 := 0) rfl rfl)) rfl rfl hl.1 rfl (lv_room (Nat.le_of_ble_eq_true rfl)) dX9_entry_150 ⟨Nat.le_of_ble_eq_true rfl, Nat.le_of_ble_eq_true rfl⟩) hP hD hS hA (fun r9 u9 H locs hw hP hD hS => ?_)
                subst hw
                have hP : va_P D vwCl (WM cI cZ cB a ((f_span u1 (f_isWord u1 6447474)).2)) H := hP
                have hD : va_D A (WM cI cZ cB a ((f_span u1 (f_isWord u1 6447474)).2)) := hD
                have hso := span_so (bar := f_isWord u1 6447474) hI1 hT1 hof1 hsp
                generalize ev6 : f_span u1 (f_isWord u1 6447474) = v6 at hP hD hf hso ⊢
                refine lv_if_ne (tgt := 95) hx hb dX9_entry_153 (by decide) (fun cs => ?_) (fun cs => ?_)
                · replace hf := hf.trans (if_neg cs)
                  obtain ⟨i8, j8, f1, f2, f3, f6, f4⟩ := hso.2.2.2
                  have f5 := (f4 cs).2
                  exact ih_lp_entry _ _ _ ⟨v6.2, (hso.1), (hso.2.1), (by rw [hso.2.2.1]; exact hof1), (⟨cn + 1, by rw [hso.2.2.1, f5, ec]; exact nI_1 _, by omega, by omega⟩), hP, hD, hS, (lv_sub hl [0] rfl), hf⟩
                · replace hf := hf.trans (if_pos cs)
                  refine lv_iconst (v := 0) hx hb dX9_entry_156 (by decide) ?_
                  exact ss_zret () hx hb hr hlocks (by decide) (by rw [hf]; exact hP) (by rw [hf]; exact hD) hS (by rw [hf]) (Nat.le_of_ble_eq_true rfl) (Nat.le_of_ble_eq_true rfl) dX9_entry_157
              · replace hf := hf.trans (if_pos c12)
                refine lv_aload_n hx hb dX9_entry_132 rfl (lv_at hl 0 rfl) ?_
                refine lv_iconst (v := 4) hx hb dX9_entry_133 (by decide) ?_
                refine lv_aload_n hx hb dX9_entry_134 rfl (lv_at hl 0 rfl) ?_
                refine va_get (D := D) (ci := 10) (v := .int (u1.1 25)) (C := RX9) (T := TX9) (N := 45) hx hb hts im_X9_entry_X9 hown hE.1 hP 0 rfl rfl 25 (by decide) (hts (.fieldLink RX9 140 "RiverBridgesModel" "at" "I") (by decide +kernel)) (fun _ h9 => h9) rfl dX9_entry_135 ?_
                refine sf_calli (va_runV (As := [.int 4, .int (u1.1 25)]) (rest := []) ⟨hx, hb, hml, hown, hts⟩ (m_wrong l D cI cZ cB cO cJ a0 H.size a  u1 4 (u1.1 25) ) (cwV 2 hts gX9_entry_X9_wrong rfl rfl rfl (by decide +kernel) ⟨Nat.le_of_ble_eq_true rfl, Nat.le_of_ble_eq_true rfl⟩) (preV_full hE hZ hA hS hP hD (va_recv hE.1 hP (ci := 10) (q0 := 0) rfl rfl)) rfl rfl hl.1 rfl (lv_room (Nat.le_of_ble_eq_true rfl)) dX9_entry_138 ⟨Nat.le_of_ble_eq_true rfl, Nat.le_of_ble_eq_true rfl⟩) hP hD hS hA (fun r9 u9 H locs hw hP hD hS => ?_)
                subst hw
                have hP : va_P D vwCl (WM cI cZ cB a ((f_wrong u1 4 (u1.1 25)).2)) H := hP
                have hD : va_D A (WM cI cZ cB a ((f_wrong u1 4 (u1.1 25)).2)) := hD
                generalize ev7 : f_wrong u1 4 (u1.1 25) = v7 at hP hD hf ⊢
                exact ss_zret () hx hb hr hlocks (nar01 (Or.inl (by rw [← ev7]; exact wrong_1 _ _ _))) (by rw [hf]; exact hP) (by rw [hf]; exact hD) hS (by rw [hf]) (Nat.le_of_ble_eq_true rfl) (Nat.le_of_ble_eq_true rfl) dX9_entry_141
            · replace hf := hf.trans (if_pos c5)
              refine lv_aload_n hx hb dX9_entry_105 rfl (lv_at hl 0 rfl) ?_
              refine lv_ldc2 (v := 500135192942) hx hb hown (hts (.constantLong RX9 194 (500135192942)) (by decide +kernel)) dX9_entry_106 ?_
              refine sf_calli (va_runV (As := [.long 500135192942]) (rest := []) ⟨hx, hb, hml, hown, hts⟩ (m_isWord l D cI cZ cB cO cJ a0 H.size a  u1 500135192942 ) (cwV 1 hts gX9_entry_X9_isWord rfl rfl rfl (by decide +kernel) ⟨Nat.le_of_ble_eq_true rfl, Nat.le_of_ble_eq_true rfl⟩) (preV_full hE hZ hA hS hP hD (va_recv hE.1 hP (ci := 10) (q0 := 0) rfl rfl)) rfl rfl hl.1 rfl (lv_room (Nat.le_of_ble_eq_true rfl)) dX9_entry_109 ⟨Nat.le_of_ble_eq_true rfl, Nat.le_of_ble_eq_true rfl⟩) hP hD hS hA (fun r9 u9 H locs hw hP hD hS => ?_)
              subst hw
              have hP : va_P D vwCl (WM cI cZ cB a u1) H := hP
              have hD : va_D A (WM cI cZ cB a u1) := hD
              refine lv_if_eq (tgt := 158) hx hb dX9_entry_112 (by decide) (fun c8 => ?_) (fun c8 => ?_)
              · replace hf := hf.trans (if_pos c8)
                refine lv_aload_n hx hb dX9_entry_158 rfl (lv_at hl 0 rfl) ?_
                refine va_get (D := D) (ci := 10) (v := .int (u1.1 24)) (C := RX9) (T := TX9) (N := 45) hx hb hts im_X9_entry_X9 hown hE.1 hP 0 rfl rfl 24 (by decide) (hts (.fieldLink RX9 143 "RiverBridgesModel" "token" "I") (by decide +kernel)) (fun _ h9 => h9) rfl dX9_entry_159 ?_
                refine lv_iconst (v := 3) hx hb dX9_entry_162 (by decide) ?_
                refine lv_icmp_eq (tgt := 171) hx hb dX9_entry_163 (by decide) (fun c9 => ?_) (fun c9 => ?_)
                · replace hf := hf.trans (if_pos c9)
                  refine lv_aload_n hx hb dX9_entry_171 rfl (lv_at hl 0 rfl) ?_
                  refine sf_callv (va_runV (As := []) (rest := []) ⟨hx, hb, hml, hown, hts⟩ (m_next l D cI cZ cB cO cJ a0 H.size a _  u1  (hT1)) (cwV 0 hts gX9_entry_X9_next rfl rfl rfl (by decide +kernel) ⟨Nat.le_of_ble_eq_true rfl, Nat.le_of_ble_eq_true rfl⟩) (preV_full hE hZ hA hS hP hD (va_recv hE.1 hP (ci := 10) (q0 := 0) rfl rfl)) rfl rfl hl.1 rfl (lv_room (Nat.le_of_ble_eq_true rfl)) dX9_entry_172 ⟨Nat.le_of_ble_eq_true rfl, Nat.le_of_ble_eq_true rfl⟩) hP hD hS hA (fun u9 H locs hw hP hD hS => ?_)
                  have hP : va_P D vwCl (WM cI cZ cB a (f_next u1)) H := hP
                  have hD : va_D A (WM cI cZ cB a (f_next u1)) := hD
                  generalize ev10 : f_next u1 = v10 at hP hD hf ⊢
                  refine lv_iconst (v := 1) hx hb dX9_entry_175 (by decide) ?_
                  exact ss_zret () hx hb hr hlocks (by decide) (by rw [hf]; exact hP) (by rw [hf]; exact hD) hS (by rw [hf]) (Nat.le_of_ble_eq_true rfl) (Nat.le_of_ble_eq_true rfl) dX9_entry_176
                · replace hf := hf.trans (if_neg c9)
                  refine lv_aload_n hx hb dX9_entry_166 rfl (lv_at hl 0 rfl) ?_
                  refine sf_calli (va_runV (As := []) (rest := []) ⟨hx, hb, hml, hown, hts⟩ (m_cant l D cI cZ cB cO cJ a0 H.size a  u1  ) (cwV 0 hts gX9_entry_X9_cant rfl rfl rfl (by decide +kernel) ⟨Nat.le_of_ble_eq_true rfl, Nat.le_of_ble_eq_true rfl⟩) (preV_full hE hZ hA hS hP hD (va_recv hE.1 hP (ci := 10) (q0 := 0) rfl rfl)) rfl rfl hl.1 rfl (lv_room (Nat.le_of_ble_eq_true rfl)) dX9_entry_167 ⟨Nat.le_of_ble_eq_true rfl, Nat.le_of_ble_eq_true rfl⟩) hP hD hS hA (fun r9 u9 H locs hw hP hD hS => ?_)
                  subst hw
                  have hP : va_P D vwCl (WM cI cZ cB a ((f_cant u1).2)) H := hP
                  have hD : va_D A (WM cI cZ cB a ((f_cant u1).2)) := hD
                  generalize ev11 : f_cant u1 = v11 at hP hD hf ⊢
                  exact ss_zret () hx hb hr hlocks (nar01 (Or.inl (by rw [← ev11]; exact cant_1 _))) (by rw [hf]; exact hP) (by rw [hf]; exact hD) hS (by rw [hf]) (Nat.le_of_ble_eq_true rfl) (Nat.le_of_ble_eq_true rfl) dX9_entry_170
              · replace hf := hf.trans (if_neg c8)
                refine lv_aload_n hx hb dX9_entry_115 rfl (lv_at hl 0 rfl) ?_
                refine va_get (D := D) (ci := 10) (v := .ref (a 22)) (C := RX9) (T := TX9) (N := 45) hx hb hts im_X9_entry_X9 hown hE.1 hP 0 rfl rfl 22 (by decide) (hts (.fieldLink RX9 60 "RiverBridgesModel" "spans" "[I") (by decide +kernel)) (fun _ h9 => h9) rfl dX9_entry_116 ?_
                refine lv_bipush (v := 8) hx hb dX9_entry_119 (by decide) ?_
                refine lv_aload_n hx hb dX9_entry_121 rfl (lv_at hl 0 rfl) ?_
                refine va_get (D := D) (ci := 10) (v := .int (u1.1 29)) (C := RX9) (T := TX9) (N := 45) hx hb hts im_X9_entry_X9 hown hE.1 hP 0 rfl rfl 29 (by decide) (hts (.fieldLink RX9 189 "RiverBridgesModel" "of" "I") (by decide +kernel)) (fun _ h9 => h9) rfl dX9_entry_122 ?_
                refine lx_iadd (v := 8 + (u1.1 29)) hx hb (rfl) dX9_entry_125 ?_
                refine lx_iald (v := u1.2.2 22 ((8 + (u1.1 29)).toNatClampNeg)) hx hb hE.1 hP 16 0 rfl rfl (by assumption) (rfl) dX9_entry_126 ?_
                refine lv_bipush (v := 12) hx hb dX9_entry_127 (by decide) ?_
                refine lv_icmp_ne (tgt := 142) hx hb dX9_entry_129 (by decide) (fun c12 => ?_) (fun c12 => ?_)
                · replace hf := hf.trans (if_neg c12)
                  have hcl := hne ec hc1 c12
                  have hsp : ixN (u1.2.2 22 (8 + u1.1 29).toNatClampNeg) 12 := ⟨cn, hcl, ec⟩
                  refine lv_aload_n hx hb dX9_entry_142 rfl (lv_at hl 0 rfl) ?_
                  refine lv_aload_n hx hb dX9_entry_143 rfl (lv_at hl 0 rfl) ?_
                  refine lv_ldc2 (v := 6447474) hx hb hown (hts (.constantLong RX9 192 (6447474)) (by decide +kernel)) dX9_entry_144 ?_
                  refine sf_calli (va_runV (As := [.long 6447474]) (rest := [.ref (a 45)]) ⟨hx, hb, hml, hown, hts⟩ (m_isWord l D cI cZ cB cO cJ a0 H.size a  u1 6447474 ) (cwV 1 hts gX9_entry_X9_isWord rfl rfl rfl (by decide +kernel) ⟨Nat.le_of_ble_eq_true rfl, Nat.le_of_ble_eq_true rfl⟩) (preV_full hE hZ hA hS hP hD (va_recv hE.1 hP (ci := 10) (q0 := 0) rfl rfl)) rfl rfl hl.1 rfl (lv_room (Nat.le_of_ble_eq_true rfl)) dX9_entry_147 ⟨Nat.le_of_ble_eq_true rfl, Nat.le_of_ble_eq_true rfl⟩) hP hD hS hA (fun r9 u9 H locs hw hP hD hS => ?_)
                  subst hw
                  have hP : va_P D vwCl (WM cI cZ cB a u1) H := hP
                  have hD : va_D A (WM cI cZ cB a u1) := hD
                  refine sf_calli (va_runV (As := [.int (f_isWord u1 6447474)]) (rest := []) ⟨hx, hb, hml, hown, hts⟩ (m_span l D cI cZ cB cO cJ a0 H.size a _  u1 (f_isWord u1 6447474) (hT1) (hof1) (hsp)) (cwV 1 hts gX9_entry_X9_span rfl rfl rfl (by decide +kernel) ⟨Nat.le_of_ble_eq_true rfl, Nat.le_of_ble_eq_true rfl⟩) (preV_full hE hZ hA hS hP hD (va_recv hE.1 hP (ci := 10) (q0 := 0) rfl rfl)) rfl rfl hl.1 rfl (lv_room (Nat.le_of_ble_eq_true rfl)) dX9_entry_150 ⟨Nat.le_of_ble_eq_true rfl, Nat.le_of_ble_eq_true rfl⟩) hP hD hS hA (fun r9 u9 H locs hw hP hD hS => ?_)
                  subst hw
                  have hP : va_P D vwCl (WM cI cZ cB a ((f_span u1 (f_isWord u1 6447474)).2)) H := hP
                  have hD : va_D A (WM cI cZ cB a ((f_span u1 (f_isWord u1 6447474)).2)) := hD
                  have hso := span_so (bar := f_isWord u1 6447474) hI1 hT1 hof1 hsp
                  generalize ev12 : f_span u1 (f_isWord u1 6447474) = v12 at hP hD hf hso ⊢
                  refine lv_if_ne (tgt := 95) hx hb dX9_entry_153 (by decide) (fun cs => ?_) (fun cs => ?_)
                  · replace hf := hf.trans (if_neg cs)
                    obtain ⟨i8, j8, f1, f2, f3, f6, f4⟩ := hso.2.2.2
                    have f5 := (f4 cs).2
                    exact ih_lp_entry _ _ _ ⟨v12.2, (hso.1), (hso.2.1), (by rw [hso.2.2.1]; exact hof1), (⟨cn + 1, by rw [hso.2.2.1, f5, ec]; exact nI_1 _, by omega, by omega⟩), hP, hD, hS, (lv_sub hl [0] rfl), hf⟩
                  · replace hf := hf.trans (if_pos cs)
                    refine lv_iconst (v := 0) hx hb dX9_entry_156 (by decide) ?_
                    exact ss_zret () hx hb hr hlocks (by decide) (by rw [hf]; exact hP) (by rw [hf]; exact hD) hS (by rw [hf]) (Nat.le_of_ble_eq_true rfl) (Nat.le_of_ble_eq_true rfl) dX9_entry_157
                · replace hf := hf.trans (if_pos c12)
                  refine lv_aload_n hx hb dX9_entry_132 rfl (lv_at hl 0 rfl) ?_
                  refine lv_iconst (v := 4) hx hb dX9_entry_133 (by decide) ?_
                  refine lv_aload_n hx hb dX9_entry_134 rfl (lv_at hl 0 rfl) ?_
                  refine va_get (D := D) (ci := 10) (v := .int (u1.1 25)) (C := RX9) (T := TX9) (N := 45) hx hb hts im_X9_entry_X9 hown hE.1 hP 0 rfl rfl 25 (by decide) (hts (.fieldLink RX9 140 "RiverBridgesModel" "at" "I") (by decide +kernel)) (fun _ h9 => h9) rfl dX9_entry_135 ?_
                  refine sf_calli (va_runV (As := [.int 4, .int (u1.1 25)]) (rest := []) ⟨hx, hb, hml, hown, hts⟩ (m_wrong l D cI cZ cB cO cJ a0 H.size a  u1 4 (u1.1 25) ) (cwV 2 hts gX9_entry_X9_wrong rfl rfl rfl (by decide +kernel) ⟨Nat.le_of_ble_eq_true rfl, Nat.le_of_ble_eq_true rfl⟩) (preV_full hE hZ hA hS hP hD (va_recv hE.1 hP (ci := 10) (q0 := 0) rfl rfl)) rfl rfl hl.1 rfl (lv_room (Nat.le_of_ble_eq_true rfl)) dX9_entry_138 ⟨Nat.le_of_ble_eq_true rfl, Nat.le_of_ble_eq_true rfl⟩) hP hD hS hA (fun r9 u9 H locs hw hP hD hS => ?_)
                  subst hw
                  have hP : va_P D vwCl (WM cI cZ cB a ((f_wrong u1 4 (u1.1 25)).2)) H := hP
                  have hD : va_D A (WM cI cZ cB a ((f_wrong u1 4 (u1.1 25)).2)) := hD
                  generalize ev13 : f_wrong u1 4 (u1.1 25) = v13 at hP hD hf ⊢
                  exact ss_zret () hx hb hr hlocks (nar01 (Or.inl (by rw [← ev13]; exact wrong_1 _ _ _))) (by rw [hf]; exact hP) (by rw [hf]; exact hD) hS (by rw [hf]) (Nat.le_of_ble_eq_true rfl) (Nat.le_of_ble_eq_true rfl) dX9_entry_141
        · replace hf := hf.trans (if_neg c3)
          refine lv_aload_n hx hb dX9_entry_63 rfl (lv_at hl 0 rfl) ?_
          refine lv_iconst (v := 4) hx hb dX9_entry_64 (by decide) ?_
          refine lv_aload_n hx hb dX9_entry_65 rfl (lv_at hl 0 rfl) ?_
          refine va_get (D := D) (ci := 10) (v := .int (v2.1 25)) (C := RX9) (T := TX9) (N := 45) hx hb hts im_X9_entry_X9 hown hE.1 hP 0 rfl rfl 25 (by decide) (hts (.fieldLink RX9 140 "RiverBridgesModel" "at" "I") (by decide +kernel)) (fun _ h9 => h9) rfl dX9_entry_66 ?_
          refine sf_calli (va_runV (As := [.int 4, .int (v2.1 25)]) (rest := []) ⟨hx, hb, hml, hown, hts⟩ (m_wrong l D cI cZ cB cO cJ a0 H.size a  v2 4 (v2.1 25) ) (cwV 2 hts gX9_entry_X9_wrong rfl rfl rfl (by decide +kernel) ⟨Nat.le_of_ble_eq_true rfl, Nat.le_of_ble_eq_true rfl⟩) (preV_full hE hZ hA hS hP hD (va_recv hE.1 hP (ci := 10) (q0 := 0) rfl rfl)) rfl rfl hl.1 rfl (lv_room (Nat.le_of_ble_eq_true rfl)) dX9_entry_69 ⟨Nat.le_of_ble_eq_true rfl, Nat.le_of_ble_eq_true rfl⟩) hP hD hS hA (fun r9 u9 H locs hw hP hD hS => ?_)
          subst hw
          have hP : va_P D vwCl (WM cI cZ cB a ((f_wrong v2 4 (v2.1 25)).2)) H := hP
          have hD : va_D A (WM cI cZ cB a ((f_wrong v2 4 (v2.1 25)).2)) := hD
          generalize ev14 : f_wrong v2 4 (v2.1 25) = v14 at hP hD hf ⊢
          exact ss_zret () hx hb hr hlocks (nar01 (Or.inl (by rw [← ev14]; exact wrong_1 _ _ _))) (by rw [hf]; exact hP) (by rw [hf]; exact hD) hS (by rw [hf]) (Nat.le_of_ble_eq_true rfl) (Nat.le_of_ble_eq_true rfl) dX9_entry_72
      · replace hf := hf.trans (if_neg c7)
        refine lv_aload_n hx hb dX9_entry_41 rfl (lv_at hl 0 rfl) ?_
        refine lv_iconst (v := 3) hx hb dX9_entry_42 (by decide) ?_
        refine lv_aload_n hx hb dX9_entry_43 rfl (lv_at hl 0 rfl) ?_
        refine va_get (D := D) (ci := 10) (v := .int (v2.1 25)) (C := RX9) (T := TX9) (N := 45) hx hb hts im_X9_entry_X9 hown hE.1 hP 0 rfl rfl 25 (by decide) (hts (.fieldLink RX9 140 "RiverBridgesModel" "at" "I") (by decide +kernel)) (fun _ h9 => h9) rfl dX9_entry_44 ?_
        refine sf_calli (va_runV (As := [.int 3, .int (v2.1 25)]) (rest := []) ⟨hx, hb, hml, hown, hts⟩ (m_wrong l D cI cZ cB cO cJ a0 H.size a  v2 3 (v2.1 25) ) (cwV 2 hts gX9_entry_X9_wrong rfl rfl rfl (by decide +kernel) ⟨Nat.le_of_ble_eq_true rfl, Nat.le_of_ble_eq_true rfl⟩) (preV_full hE hZ hA hS hP hD (va_recv hE.1 hP (ci := 10) (q0 := 0) rfl rfl)) rfl rfl hl.1 rfl (lv_room (Nat.le_of_ble_eq_true rfl)) dX9_entry_47 ⟨Nat.le_of_ble_eq_true rfl, Nat.le_of_ble_eq_true rfl⟩) hP hD hS hA (fun r9 u9 H locs hw hP hD hS => ?_)
        subst hw
        have hP : va_P D vwCl (WM cI cZ cB a ((f_wrong v2 3 (v2.1 25)).2)) H := hP
        have hD : va_D A (WM cI cZ cB a ((f_wrong v2 3 (v2.1 25)).2)) := hD
        generalize ev15 : f_wrong v2 3 (v2.1 25) = v15 at hP hD hf ⊢
        exact ss_zret () hx hb hr hlocks (nar01 (Or.inl (by rw [← ev15]; exact wrong_1 _ _ _))) (by rw [hf]; exact hP) (by rw [hf]; exact hD) hS (by rw [hf]) (Nat.le_of_ble_eq_true rfl) (Nat.le_of_ble_eq_true rfl) dX9_entry_50
    · replace hf := hf.trans (if_neg ct)
      refine lv_aload_n hx hb dX9_entry_27 rfl (lv_at hl 0 rfl) ?_
      refine sf_calli (va_runV (As := []) (rest := []) ⟨hx, hb, hml, hown, hts⟩ (m_cant l D cI cZ cB cO cJ a0 H.size a  v2  ) (cwV 0 hts gX9_entry_X9_cant rfl rfl rfl (by decide +kernel) ⟨Nat.le_of_ble_eq_true rfl, Nat.le_of_ble_eq_true rfl⟩) (preV_full hE hZ hA hS hP hD (va_recv hE.1 hP (ci := 10) (q0 := 0) rfl rfl)) rfl rfl hl.1 rfl (lv_room (Nat.le_of_ble_eq_true rfl)) dX9_entry_28 ⟨Nat.le_of_ble_eq_true rfl, Nat.le_of_ble_eq_true rfl⟩) hP hD hS hA (fun r9 u9 H locs hw hP hD hS => ?_)
      subst hw
      have hP : va_P D vwCl (WM cI cZ cB a ((f_cant v2).2)) H := hP
      have hD : va_D A (WM cI cZ cB a ((f_cant v2).2)) := hD
      generalize ev16 : f_cant v2 = v16 at hP hD hf ⊢
      exact ss_zret () hx hb hr hlocks (nar01 (Or.inl (by rw [← ev16]; exact cant_1 _))) (by rw [hf]; exact hP) (by rw [hf]; exact hD) hS (by rw [hf]) (Nat.le_of_ble_eq_true rfl) (Nat.le_of_ble_eq_true rfl) dX9_entry_31
  · replace hf := hf.trans (if_pos c1)
    refine lv_aload_n hx hb dX9_entry_10 rfl (lv_at hl 0 rfl) ?_
    refine sf_calli (va_runV (As := []) (rest := []) ⟨hx, hb, hml, hown, hts⟩ (m_cant l D cI cZ cB cO cJ a0 H.size a  u  ) (cwV 0 hts gX9_entry_X9_cant rfl rfl rfl (by decide +kernel) ⟨Nat.le_of_ble_eq_true rfl, Nat.le_of_ble_eq_true rfl⟩) (preV_full hE hZ hA hS hP hD (va_recv hE.1 hP (ci := 10) (q0 := 0) rfl rfl)) rfl rfl hl.1 rfl (lv_room (Nat.le_of_ble_eq_true rfl)) dX9_entry_11 ⟨Nat.le_of_ble_eq_true rfl, Nat.le_of_ble_eq_true rfl⟩) hP hD hS hA (fun r9 u9 H locs hw hP hD hS => ?_)
    subst hw
    have hP : va_P D vwCl (WM cI cZ cB a ((f_cant u).2)) H := hP
    have hD : va_D A (WM cI cZ cB a ((f_cant u).2)) := hD
    generalize ev17 : f_cant u = v17 at hP hD hf ⊢
    exact ss_zret () hx hb hr hlocks (nar01 (Or.inl (by rw [← ev17]; exact cant_1 _))) (by rw [hf]; exact hP) (by rw [hf]; exact hD) hS (by rw [hf]) (Nat.le_of_ble_eq_true rfl) (Nat.le_of_ble_eq_true rfl) dX9_entry_14
def EO (nB nS nK mi ln zt : Nat) (u v : RS) : Prop := MI nB nS nK mi ln v ∧ TI zt v ∧ ∃ i j : Nat, u.1 4 = nI i ∧ v.1 4 = nI j ∧ i ≤ j ∧ j ≤ zt
theorem EO_na {nB nS nK mi ln zt : Nat} {u v : RS} (hI : MI nB nS nK mi ln u) (h : NA zt u v) : EO nB nS nK mi ln zt u v := by
  obtain ⟨a1, a2, ⟨i, j, b1, b2, b3, b5, b4⟩, a4⟩ := h
  exact ⟨NX_MI a2 hI, a1, i, j, b1, b2, b3, b5⟩
theorem EO.tr {nB nS nK mi ln zt : Nat} {u v w : RS} (h : EO nB nS nK mi ln zt u v) (g : EO nB nS nK mi ln zt v w) : EO nB nS nK mi ln zt u w := by
  obtain ⟨a1, a2, i, j, b1, b2, b3, b4⟩ := h
  obtain ⟨c1, c2, i2, j2, d1, d2, d3, d4⟩ := g
  have hz := a2.1.2
  have e : j = i2 := (nI_eq (by omega) (by omega)).mp (b2.symm.trans d1)
  exact ⟨c1, c2, i, j2, b1, d2, by omega, d4⟩
theorem EO_wr {nB nS nK mi ln zt : Nat} {u v : RS} (h : EO nB nS nK mi ln zt u v) (kd wh : Int32) : EO nB nS nK mi ln zt u (sg (sg v 27 kd) 28 wh) := by
  obtain ⟨a1, a2, i, j, b1, b2, b3, b4⟩ := h
  exact ⟨MI_sg (MI_sg a1 (by decide)) (by decide), TI_sg (TI_sg a2 (by decide)) (by decide), i, j, b1, b2, b3, b4⟩
theorem EO_cant {nB nS nK mi ln zt : Nat} {u v : RS} (h : EO nB nS nK mi ln zt u v) : EO nB nS nK mi ln zt u (f_cant v).2 := by
  obtain ⟨kd, e⟩ := cant_2 v
  rw [e]
  exact EO_wr h _ _
theorem EO_rf {nB nS nK mi ln zt : Nat} {u : RS} (hI : MI nB nS nK mi ln u) (hT : TI zt u) : EO nB nS nK mi ln zt u u := by
  obtain ⟨i, ei, hi⟩ := hT.2
  exact ⟨hI, hT, i, i, ei, ei, Nat.le_refl _, hi⟩
theorem EO_so {nB nS nK mi ln zt : Nat} {u : RS} {r : Int32 × RS} (h : SO nB nS nK mi ln zt u r) : EO nB nS nK mi ln zt u r.2 := by
  obtain ⟨a1, a2, a3, i, j, b1, b2, b3, b5, b4⟩ := h
  exact ⟨a1, a2, i, j, b1, b2, b3, b5⟩
theorem lp_entry_eo {nB nS nK mi ln zt : Nat} : ∀ (n : Nat) (u1 : RS), MI nB nS nK mi ln u1 → TI zt u1 → ixN (u1.1 29) 8 → EO nB nS nK mi ln zt u1 (lp_entry n u1).2 := by
  intro n
  induction n with
  | zero => intro u1 hI hT _; exact EO_rf hI hT
  | succ n ih =>
    intro u1 hI hT hof
    have body : EO nB nS nK mi ln zt u1 (if u1.2.2 22 ((8 + (u1.1 29)).toNatClampNeg) = 12 then ((f_wrong u1 4 (u1.1 25)).1, (f_wrong u1 4 (u1.1 25)).2) else (if (f_span u1 (f_isWord u1 6447474)).1 = 0 then (0, (f_span u1 (f_isWord u1 6447474)).2) else (lp_entry n (f_span u1 (f_isWord u1 6447474)).2))).2 := by
      by_cases c1 : u1.2.2 22 ((8 + (u1.1 29)).toNatClampNeg) = 12
      · rw [if_pos c1]; exact EO_wr (EO_rf hI hT) _ _
      rw [if_neg c1]
      have hso := span_so (bar := f_isWord u1 6447474) hI hT hof (ixN_ne (hI.spans _ (at_add8 hof)) c1)
      generalize f_span u1 (f_isWord u1 6447474) = v at hso ⊢
      split
      · have e9 := EO_so hso
        exact e9
      · exact (EO_so hso).tr (ih _ hso.1 hso.2.1 (by rw [hso.2.2.1]; exact hof))
    rw [lp_entry_s]
    by_cases d1 : f_isWord u1 6447474 = 0
    · rw [if_pos d1]
      by_cases d2 : f_isWord u1 500135192942 = 0
      · rw [if_pos d2]
        split
        · exact EO_na hI (next_na hT)
        · exact EO_cant (EO_rf hI hT)
      · rw [if_neg d2]; exact body
    · rw [if_neg d1]; exact body
def ES (nB nS nK mi ln zt : Nat) (u : RS) (r : Int32 × RS) : Prop := MI nB nS nK mi ln r.2 ∧ TI zt r.2 ∧ ∃ i j : Nat, u.1 4 = nI i ∧ r.2.1 4 = nI j ∧ i ≤ j ∧ j ≤ zt ∧ (¬ r.1 = 0 → i < j)
theorem ES_eo {nB nS nK mi ln zt : Nat} {u : RS} {r : Int32 × RS} (h : EO nB nS nK mi ln zt u r.2) (h0 : r.1 = 0) : ES nB nS nK mi ln zt u r := by
  obtain ⟨a1, a2, i, j, b1, b2, b3, b4⟩ := h
  exact ⟨a1, a2, i, j, b1, b2, b3, b4, fun h9 => absurd h0 h9⟩
theorem entry_es {nB nS nK mi ln zt : Nat} {u : RS} (hI : MI nB nS nK mi ln u) (hT : TI zt u) : ES nB nS nK mi ln zt u (f_entry u) := by
  have n1 := next_na hT
  rw [f_entry_s]
  by_cases c1 : f_isWord u 108243533981541 = 0
  · rw [if_pos c1]; exact ES_eo (EO_cant (EO_rf hI hT)) (cant_1 u)
  rw [if_neg c1]
  generalize f_next u = v at n1 ⊢
  have e1 := EO_na hI n1
  by_cases c2 : v.1 24 = 2
  · rw [if_pos c2]
    by_cases c3 : v.1 26 ≤ 7
    · rw [if_pos c3]
      have hn8 := ixN_le7 (n1.2.2.2 c2) (by decide) c3
      split
      · have hT2 : TI zt (sa (sg v 29 (v.1 26)) 23 ((v.1 26).toNatClampNeg) (vp_nar .boolean 1)) := TI_sa (TI_sg n1.1 (by decide))
        have hI2 : MI nB nS nK mi ln (sa (sg v 29 (v.1 26)) 23 ((v.1 26).toNatClampNeg) (vp_nar .boolean 1)) := MI_sa (MI_sg e1.1 (by decide)) (by decide)
        have n2 := next_na hT2
        have e2 := EO_na hI2 n2
        have ho : ixN ((f_next (sa (sg v 29 (v.1 26)) 23 ((v.1 26).toNatClampNeg) (vp_nar .boolean 1))).1 29) 8 := by
          rw [n2.2.1.2 29 (by decide) (by decide) (by decide) (by decide)]; exact hn8
        have e3 := e2.tr (lp_entry_eo 14 _ e2.1 e2.2.1 ho)
        generalize lp_entry 14 (f_next (sa (sg v 29 (v.1 26)) 23 ((v.1 26).toNatClampNeg) (vp_nar .boolean 1))) = r at e3 ⊢
        obtain ⟨a1, a2, i, j, b1, b2, b3, b4⟩ := e3
        obtain ⟨-, -, ⟨i2, j2, d1, d2, d3, d5, d4⟩, -⟩ := n1
        have hz := hT.1.2
        have b1' : v.1 4 = nI i := b1
        have e : j2 = i := (nI_eq (by omega) (by omega)).mp (d2.symm.trans b1')
        have := d4 (by rw [c2]; decide)
        exact ⟨a1, a2, i2, j, d1, b2, by omega, b4, fun _ => by omega⟩
      · exact ES_eo (EO_wr e1 _ _) rfl
    · rw [if_neg c3]; exact ES_eo (EO_wr e1 _ _) rfl
  · rw [if_neg c2]; exact ES_eo (EO_cant e1) (cant_1 v)
def lp_tt4  : Nat → RS → Nat → RS
  | 0, u4, k4 => u4
  | n + 1, u4, k4 => (if 8 ≤ nI k4 then u4 else (lp_tt4  n (sa u4 22 k4 (u4.2.2 22 ((8 + (nI k4)).toNatClampNeg))) (k4 + 1)))
theorem lp_tt4_s  (n : Nat) (u4 : RS) (k4 : Nat) : lp_tt4  (n + 1) u4 k4 = (if 8 ≤ nI k4 then u4 else (lp_tt4  n (sa u4 22 k4 (u4.2.2 22 ((8 + (nI k4)).toNatClampNeg))) (k4 + 1))) := rfl
def lp_tt3  : Nat → RS → Nat → RS
  | 0, u3, k3 => u3
  | n + 1, u3, k3 => (if 96 ≤ nI k3 then u3 else (lp_tt3  n (sa (sa u3 20 k3 (u3.2.2 20 ((96 + (nI k3)).toNatClampNeg))) 21 k3 (u3.2.2 21 ((96 + (nI k3)).toNatClampNeg))) (k3 + 1)))
theorem lp_tt3_s  (n : Nat) (u3 : RS) (k3 : Nat) : lp_tt3  (n + 1) u3 k3 = (if 96 ≤ nI k3 then u3 else (lp_tt3  n (sa (sa u3 20 k3 (u3.2.2 20 ((96 + (nI k3)).toNatClampNeg))) 21 k3 (u3.2.2 21 ((96 + (nI k3)).toNatClampNeg))) (k3 + 1))) := rfl
def lp_tt2  : Nat → RS → Nat → Int32 × RS
  | 0, u2, q => (0, u2)
  | n + 1, u2, q => (if f_isEnd u2 = 0 then (if (f_entry u2).1 = 0 then ((-1) - ((f_entry u2).2.1 28), (f_entry u2).2) else (lp_tt2  n (f_entry u2).2 (q + 1))) else (nI q, (lp_tt4  9 (lp_tt3  97 u2 0) 0)))
theorem lp_tt2_s  (n : Nat) (u2 : RS) (q : Nat) : lp_tt2  (n + 1) u2 q = (if f_isEnd u2 = 0 then (if (f_entry u2).1 = 0 then ((-1) - ((f_entry u2).2.1 28), (f_entry u2).2) else (lp_tt2  n (f_entry u2).2 (q + 1))) else (nI q, (lp_tt4  9 (lp_tt3  97 u2 0) 0))) := rfl
def lp_tt1  : Nat → RS → Nat → RS
  | 0, u1, k => u1
  | n + 1, u1, k => (if 8 ≤ nI k then u1 else (lp_tt1  n (sa (sa u1 23 k (vp_nar .boolean 0)) 22 ((8 + (nI k)).toNatClampNeg) 0) (k + 1)))
theorem lp_tt1_s  (n : Nat) (u1 : RS) (k : Nat) : lp_tt1  (n + 1) u1 k = (if 8 ≤ nI k then u1 else (lp_tt1  n (sa (sa u1 23 k (vp_nar .boolean 0)) 22 ((8 + (nI k)).toNatClampNeg) 0) (k + 1))) := rfl
def f_timetable (u : RS) : Int32 × RS := (if (f_taken (sg u 0 0)).1 18 = 0 then (lp_tt2  442 (f_next (lp_tt1  9 (sg (f_taken (sg u 0 0)) 27 0) 0)) 0) else (-500, (f_taken (sg u 0 0))))
theorem f_timetable_s (u : RS) : f_timetable u = (if (f_taken (sg u 0 0)).1 18 = 0 then (lp_tt2  442 (f_next (lp_tt1  9 (sg (f_taken (sg u 0 0)) 27 0) 0)) 0) else (-500, (f_taken (sg u 0 0)))) := rfl
theorem im_X9_timetable_X9 : ∀ w ∈ wsX90, w ∈ wsX9_timetable := fun _ h => List.mem_cons_of_mem _ (List.mem_append_right _ h)
set_option maxHeartbeats 400000 in
set_option maxRecDepth 100000 in
theorem m_timetable (l : Launch) (D : va_G) (cI cZ cB cO cJ : ClassId) (a0 sz : Nat) (a : Nat → Nat) (nB nS nK mi ln : Nat) (u : RS) (hI : MI nB nS nK mi ln u) : Met l yX9_timetable wsX9_timetable ({ frames := 4, cells := 0, slots := 0, locals := 88 }) (Pcs D cI cZ cB cO cJ a0 [.ref (a 45)] (WM cI cZ cB a u) sz) (va_Qi (fun (r : Int32) (_ : Unit) => r = (f_timetable u).1) (fun (_ : Unit) t => va_P D vwCl (WM cI cZ cB a (f_timetable u).2) t.heap ∧ va_D (va_A (WM cI cZ cB a u) sz) (WM cI cZ cB a (f_timetable u).2)) (va_A (WM cI cZ cB a u) sz)) 0 0 (va_A (WM cI cZ cB a u) sz) := by
  refine Met.ofW (cc := cX9_timetable) (maxL := 3) (ret := (some .int)) (by decide) rfl ?_
  intro p e s m args below meth c s₁ B hml hv
  obtain ⟨rfl, hsz, hP, hE, hD0, hZ⟩ := hv
  have hx := B.exec
  have hb := B.bytes
  have hr := B.returns
  have hts := atoms_spec (ws := wsX9_timetable) B.pre
  have hown : s.vm.findClass RX9 = some m.cls := findClass_of_methodNamed B.named
  have hlocks := B.notSynchronized
  subst hsz
  have hD := hD0.self (sz := s.heap.size)
  generalize hAe : va_A (WM cI cZ cB a u) s.heap.size = A at hD hZ ⊢
  have hA : ∀ q : Nat, s.heap.size ≤ q → A q := fun q h => by rw [← hAe]; exact Or.inr h
  clear hAe
  have hS : va_S A s.heap s.heap [] := va_S.rf
  have hP : va_P D vwCl (WM cI cZ cB a u) s.heap := hP
  have hl := lv_entry ([.ref (a 45)]) (n := 3) (Nat.le_of_ble_eq_true rfl)
  rw [lg_entry_eq]
  generalize (lg_sl ([.ref (a 45)]) ++ List.replicate (3 - (lg_sl ([.ref (a 45)])).length) Slot.unset).toArray = ls at hl ⊢
  have hl : lv_has ls 3 [(0, .ref (a 45))] := hl
  have hf := f_timetable_s u
  refine lv_aload_n hx hb dX9_timetable_0 rfl (lv_at hl 0 rfl) ?_
  refine lv_iconst (v := 0) hx hb dX9_timetable_1 (by decide) ?_
  refine va_put (D := D) (ci := 10) (v := .int 0) (ty := .int) (C := RX9) (T := TX9) (N := 45) hx hb hts im_X9_timetable_X9 tyX9 tyX9_ok nmX9 hown hE.1 hP hD hS 0 rfl rfl 0 (by decide) (hts (.fieldLink RX9 103 "RiverBridgesModel" "thrown" "I") (by decide +kernel)) (fun _ h9 => h9) rfl (by decide +kernel) rfl rfl (Nat.le_of_ble_eq_true rfl) dX9_timetable_2 (fun H locs hP hD hS => ?_)
  have hP := va_P_eq (WM_g0 cI cZ cB a u 0) hP
  have hD := va_D_eq (WM_g0 cI cZ cB a u 0) hD
  refine lv_aload_n hx hb dX9_timetable_5 rfl (lv_at hl 0 rfl) ?_
  refine sf_callv (va_runV (As := []) (rest := []) ⟨hx, hb, hml, hown, hts⟩ (m_taken l D cI cZ cB cO cJ a0 H.size a  (sg u 0 0)  ) (cwV 0 hts gX9_timetable_X9_taken rfl rfl rfl (by decide +kernel) ⟨Nat.le_of_ble_eq_true rfl, Nat.le_of_ble_eq_true rfl⟩) (preV_full hE hZ hA hS hP hD (va_recv hE.1 hP (ci := 10) (q0 := 0) rfl rfl)) rfl rfl hl.1 rfl (lv_room (Nat.le_of_ble_eq_true rfl)) dX9_timetable_6 ⟨Nat.le_of_ble_eq_true rfl, Nat.le_of_ble_eq_true rfl⟩) hP hD hS hA (fun u9 H locs hw hP hD hS => ?_)
  have hP : va_P D vwCl (WM cI cZ cB a (f_taken (sg u 0 0))) H := hP
  have hD : va_D A (WM cI cZ cB a (f_taken (sg u 0 0))) := hD
  have hI0 : MI nB nS nK mi 0 (f_taken (sg u 0 0)) := MI_taken (MI_sg hI (by decide))
  have hT0 : TI ln (f_taken (sg u 0 0)) := TI_taken (MI_sg hI (by decide))
  generalize ev1 : f_taken (sg u 0 0) = v1 at hP hD hf hI0 hT0 ⊢
  refine lv_aload_n hx hb dX9_timetable_9 rfl (lv_at hl 0 rfl) ?_
  refine va_get (D := D) (ci := 10) (v := .int (v1.1 18)) (C := RX9) (T := TX9) (N := 45) hx hb hts im_X9_timetable_X9 hown hE.1 hP 0 rfl rfl 18 (by decide) (hts (.fieldLink RX9 122 "RiverBridgesModel" "minute" "I") (by decide +kernel)) (fun _ h9 => h9) rfl dX9_timetable_10 ?_
  refine lv_if_eq (tgt := 20) hx hb dX9_timetable_13 (by decide) (fun c2 => ?_) (fun c2 => ?_)
  · replace hf := hf.trans (if_pos c2)
    refine lv_aload_n hx hb dX9_timetable_20 rfl (lv_at hl 0 rfl) ?_
    refine lv_iconst (v := 0) hx hb dX9_timetable_21 (by decide) ?_
    refine va_put (D := D) (ci := 10) (v := .int 0) (ty := .int) (C := RX9) (T := TX9) (N := 45) hx hb hts im_X9_timetable_X9 tyX9 tyX9_ok nmX9 hown hE.1 hP hD hS 0 rfl rfl 27 (by decide) (hts (.fieldLink RX9 160 "RiverBridgesModel" "fault" "I") (by decide +kernel)) (fun _ h9 => h9) rfl (by decide +kernel) rfl rfl (Nat.le_of_ble_eq_true rfl) dX9_timetable_22 (fun H locs hP hD hS => ?_)
    have hP := va_P_eq (WM_g27 cI cZ cB a v1 0) hP
    have hD := va_D_eq (WM_g27 cI cZ cB a v1 0) hD
    refine lv_iconst (v := 0) hx hb dX9_timetable_25 (by decide) ?_
    refine lv_istore_n (lv' := [(1, .int 0), (0, .ref (a 45))]) hx hb dX9_timetable_26 rfl hl (by decide) rfl (fun ls hl => ?_)
    have hf_lp_tt1 := hf
    refine ss_ind (J := fun n H locs ls => ∃ (u1 : RS) (k : Nat), (k + n = 9) ∧ (k ≤ 8) ∧ (MI nB nS nK mi 0 u1) ∧ (TI ln u1) ∧ va_P D vwCl (WM cI cZ cB a u1) H ∧ va_D A (WM cI cZ cB a u1) ∧ va_S A s.heap H locs ∧ lv_has ls 3 [(1, .int (nI k)), (0, .ref (a 45))] ∧ lp_tt1  9 (sg v1 27 0) 0 = lp_tt1  n u1 k) ?_ ?_ (9) _ _ _ ⟨(sg v1 27 0), 0, (rfl), (Nat.zero_le _), (MI_sg hI0 (by decide)), (TI_sg hT0 (by decide)), hP, hD, hS, (lv_sub hl [0, 1] rfl), rfl⟩
    all_goals clear hf
    · intro H locs ls hJ
      obtain ⟨u1, k, hkn, hkw, hI1, hT1, hP, hD, hS, hl, hf⟩ := hJ
      omega
    · intro n_lp_tt1 ih_lp_tt1 H locs ls hJ
      obtain ⟨u1, k, hkn, hkw, hI1, hT1, hP, hD, hS, hl, hf⟩ := hJ
      replace hf := hf.trans (lp_tt1_s  n_lp_tt1 _ _)
      refine lv_iload_n hx hb dX9_timetable_27 rfl (lv_at hl 0 rfl) ?_
      refine lv_bipush (v := 8) hx hb dX9_timetable_28 (by decide) ?_
      refine lv_icmp_ge (tgt := 56) hx hb dX9_timetable_30 (by decide) (fun ck => ?_) (fun ck => ?_)
      · replace hf := hf.trans (if_pos ck)
        have e90 : (lp_tt1  9 (sg v1 27 0) 0) = u1 := by rw [hf]
        clear hf
        have hf := hf_lp_tt1
        try rw [e90] at hf
        clear ih_lp_tt1 e90
        have hl : lv_has ls 3 [(0, .ref (a 45))] := lv_sub hl [1] rfl
        refine lv_iconst (v := 0) hx hb dX9_timetable_56 (by decide) ?_
        refine lv_istore_n (lv' := [(1, .int 0), (0, .ref (a 45))]) hx hb dX9_timetable_57 rfl hl (by decide) rfl (fun ls hl => ?_)
        refine lv_aload_n hx hb dX9_timetable_58 rfl (lv_at hl 1 rfl) ?_
        refine sf_callv (va_runV (As := []) (rest := []) ⟨hx, hb, hml, hown, hts⟩ (m_next l D cI cZ cB cO cJ a0 H.size a _  u1  (hT1)) (cwV 0 hts gX9_timetable_X9_next rfl rfl rfl (by decide +kernel) ⟨Nat.le_of_ble_eq_true rfl, Nat.le_of_ble_eq_true rfl⟩) (preV_full hE hZ hA hS hP hD (va_recv hE.1 hP (ci := 10) (q0 := 0) rfl rfl)) rfl rfl hl.1 rfl (lv_room (Nat.le_of_ble_eq_true rfl)) dX9_timetable_59 ⟨Nat.le_of_ble_eq_true rfl, Nat.le_of_ble_eq_true rfl⟩) hP hD hS hA (fun u9 H locs hw hP hD hS => ?_)
        have hP : va_P D vwCl (WM cI cZ cB a (f_next u1)) H := hP
        have hD : va_D A (WM cI cZ cB a (f_next u1)) := hD
        have hn := next_na hT1
        generalize ev3 : f_next u1 = v3 at hP hD hf hn ⊢
        refine ss_ind (J := fun n H locs ls => ∃ (u2 : RS) (q : Nat), (q + n = 442) ∧ (MI nB nS nK mi 0 u2) ∧ (TI ln u2) ∧ (∃ i : Nat, u2.1 4 = nI i ∧ i ≤ ln ∧ 442 ≤ i + n) ∧ va_P D vwCl (WM cI cZ cB a u2) H ∧ va_D A (WM cI cZ cB a u2) ∧ va_S A s.heap H locs ∧ lv_has ls 3 [(1, .int (nI q)), (0, .ref (a 45))] ∧ f_timetable u = lp_tt2  n u2 q) ?_ ?_ (442) _ _ _ ⟨v3, 0, (rfl), (NX_MI hn.2.1 hI1), (hn.1), (by obtain ⟨i, ei, hi⟩ := hn.1.2; exact ⟨i, ei, hi, by omega⟩), hP, hD, hS, (lv_sub hl [0, 1] rfl), hf⟩
        · intro H locs ls hJ
          obtain ⟨u2, q, hqn, hI2, hT2, hp, hP, hD, hS, hl, hf⟩ := hJ
          obtain ⟨i, _, h1, h2⟩ := hp; have := hT2.1.2; omega
        · intro n_lp_tt2 ih_lp_tt2 H locs ls hJ
          obtain ⟨u2, q, hqn, hI2, hT2, hp, hP, hD, hS, hl, hf⟩ := hJ
          replace hf := hf.trans (lp_tt2_s  n_lp_tt2 _ _)
          obtain ⟨i, ei, hi1, hi2⟩ := hp
          have hz2 := hT2.1.2
          refine lv_aload_n hx hb dX9_timetable_62 rfl (lv_at hl 1 rfl) ?_
          refine sf_calli (va_runV (As := []) (rest := []) ⟨hx, hb, hml, hown, hts⟩ (m_isEnd l D cI cZ cB cO cJ a0 H.size a  u2  ) (cwV 0 hts gX9_timetable_X9_isEnd rfl rfl rfl (by decide +kernel) ⟨Nat.le_of_ble_eq_true rfl, Nat.le_of_ble_eq_true rfl⟩) (preV_full hE hZ hA hS hP hD (va_recv hE.1 hP (ci := 10) (q0 := 0) rfl rfl)) rfl rfl hl.1 rfl (lv_room (Nat.le_of_ble_eq_true rfl)) dX9_timetable_63 ⟨Nat.le_of_ble_eq_true rfl, Nat.le_of_ble_eq_true rfl⟩) hP hD hS hA (fun r9 u9 H locs hw hP hD hS => ?_)
          subst hw
          have hP : va_P D vwCl (WM cI cZ cB a u2) H := hP
          have hD : va_D A (WM cI cZ cB a u2) := hD
          refine lv_if_ne (tgt := 89) hx hb dX9_timetable_66 (by decide) (fun ce => ?_) (fun ce => ?_)
          · replace hf := hf.trans (if_neg ce)
            refine lv_iconst (v := 0) hx hb dX9_timetable_89 (by decide) ?_
            refine lv_istore_n (lv' := [(2, .int 0), (1, .int (nI q)), (0, .ref (a 45))]) hx hb dX9_timetable_90 rfl hl (by decide) rfl (fun ls hl => ?_)
            have hf_lp_tt3 := hf
            refine ss_ind (J := fun n H locs ls => ∃ (u3 : RS) (k3 : Nat), (k3 + n = 97) ∧ (k3 ≤ 96) ∧ va_P D vwCl (WM cI cZ cB a u3) H ∧ va_D A (WM cI cZ cB a u3) ∧ va_S A s.heap H locs ∧ lv_has ls 3 [(2, .int (nI k3)), (1, .int (nI q)), (0, .ref (a 45))] ∧ lp_tt3  97 u2 0 = lp_tt3  n u3 k3) ?_ ?_ (97) _ _ _ ⟨u2, 0, (rfl), (Nat.zero_le _), hP, hD, hS, (lv_sub hl [0, 1, 2] rfl), rfl⟩
            all_goals clear hf
            · intro H locs ls hJ
              obtain ⟨u3, k3, hk3n, hk3w, hP, hD, hS, hl, hf⟩ := hJ
              omega
            · intro n_lp_tt3 ih_lp_tt3 H locs ls hJ
              obtain ⟨u3, k3, hk3n, hk3w, hP, hD, hS, hl, hf⟩ := hJ
              replace hf := hf.trans (lp_tt3_s  n_lp_tt3 _ _)
              refine lv_iload_n hx hb dX9_timetable_91 rfl (lv_at hl 0 rfl) ?_
              refine lv_bipush (v := 96) hx hb dX9_timetable_92 (by decide) ?_
              refine lv_icmp_ge (tgt := 133) hx hb dX9_timetable_94 (by decide) (fun ck => ?_) (fun ck => ?_)
              · replace hf := hf.trans (if_pos ck)
                have e90 : (lp_tt3  97 u2 0) = u3 := by rw [hf]
                clear hf
                have hf := hf_lp_tt3
                try rw [e90] at hf
                clear ih_lp_tt3 e90
                have hl : lv_has ls 3 [(1, .int (nI q)), (0, .ref (a 45))] := lv_sub hl [1, 2] rfl
                refine lv_iconst (v := 0) hx hb dX9_timetable_133 (by decide) ?_
                refine lv_istore_n (lv' := [(2, .int 0), (1, .int (nI q)), (0, .ref (a 45))]) hx hb dX9_timetable_134 rfl hl (by decide) rfl (fun ls hl => ?_)
                have hf_lp_tt4 := hf
                refine ss_ind (J := fun n H locs ls => ∃ (u4 : RS) (k4 : Nat), (k4 + n = 9) ∧ (k4 ≤ 8) ∧ va_P D vwCl (WM cI cZ cB a u4) H ∧ va_D A (WM cI cZ cB a u4) ∧ va_S A s.heap H locs ∧ lv_has ls 3 [(2, .int (nI k4)), (1, .int (nI q)), (0, .ref (a 45))] ∧ lp_tt4  9 u3 0 = lp_tt4  n u4 k4) ?_ ?_ (9) _ _ _ ⟨u3, 0, (rfl), (Nat.zero_le _), hP, hD, hS, (lv_sub hl [0, 1, 2] rfl), rfl⟩
                all_goals clear hf
                · intro H locs ls hJ
                  obtain ⟨u4, k4, hk4n, hk4w, hP, hD, hS, hl, hf⟩ := hJ
                  omega
                · intro n_lp_tt4 ih_lp_tt4 H locs ls hJ
                  obtain ⟨u4, k4, hk4n, hk4w, hP, hD, hS, hl, hf⟩ := hJ
                  replace hf := hf.trans (lp_tt4_s  n_lp_tt4 _ _)
                  refine lv_iload_n hx hb dX9_timetable_135 rfl (lv_at hl 0 rfl) ?_
                  refine lv_bipush (v := 8) hx hb dX9_timetable_136 (by decide) ?_
                  refine lv_icmp_ge (tgt := 162) hx hb dX9_timetable_138 (by decide) (fun ck => ?_) (fun ck => ?_)
                  · replace hf := hf.trans (if_pos ck)
                    have e90 : (lp_tt4  9 u3 0) = u4 := by rw [hf]
                    clear hf
                    have hf := hf_lp_tt4
                    try rw [e90] at hf
                    clear ih_lp_tt4 e90
                    have hl : lv_has ls 3 [(1, .int (nI q)), (0, .ref (a 45))] := lv_sub hl [1, 2] rfl
                    refine lv_iload_n hx hb dX9_timetable_162 rfl (lv_at hl 0 rfl) ?_
                    exact ss_iret () hx hb hr hlocks (by rw [hf]; exact hP) (by rw [hf]; exact hD) hS (by rw [hf]) (Nat.le_of_ble_eq_true rfl) (Nat.le_of_ble_eq_true rfl) dX9_timetable_163
                  · replace hf := hf.trans (if_neg ck)
                    have hk : k4 < 8 := nltI (n := 8) rfl (by omega) (by omega) ck
                    have i1 : vp_in (nI k4) 16 := vp_in_nI (by omega) (by omega)
                    have i2 : vp_in (8 + nI k4) 16 := ix_add8 ⟨k4, hk, rfl⟩
                    refine lv_aload_n hx hb dX9_timetable_141 rfl (lv_at hl 2 rfl) ?_
                    refine va_get (D := D) (ci := 10) (v := .ref (a 22)) (C := RX9) (T := TX9) (N := 45) hx hb hts im_X9_timetable_X9 hown hE.1 hP 0 rfl rfl 22 (by decide) (hts (.fieldLink RX9 60 "RiverBridgesModel" "spans" "[I") (by decide +kernel)) (fun _ h9 => h9) rfl dX9_timetable_142 ?_
                    refine lv_iload_n hx hb dX9_timetable_145 rfl (lv_at hl 0 rfl) ?_
                    refine lv_aload_n hx hb dX9_timetable_146 rfl (lv_at hl 2 rfl) ?_
                    refine va_get (D := D) (ci := 10) (v := .ref (a 22)) (C := RX9) (T := TX9) (N := 45) hx hb hts im_X9_timetable_X9 hown hE.1 hP 0 rfl rfl 22 (by decide) (hts (.fieldLink RX9 60 "RiverBridgesModel" "spans" "[I") (by decide +kernel)) (fun _ h9 => h9) rfl dX9_timetable_147 ?_
                    refine lv_bipush (v := 8) hx hb dX9_timetable_150 (by decide) ?_
                    refine lv_iload_n hx hb dX9_timetable_152 rfl (lv_at hl 0 rfl) ?_
                    refine lx_iadd (v := 8 + (nI k4)) hx hb (rfl) dX9_timetable_153 ?_
                    refine lx_iald (v := u4.2.2 22 ((8 + (nI k4)).toNatClampNeg)) hx hb hE.1 hP 16 0 rfl rfl (by assumption) (rfl) dX9_timetable_154 ?_
                    refine lx_iast (g := upd (u4.2.2 22) k4 (u4.2.2 22 ((8 + (nI k4)).toNatClampNeg))) hx hb hE.1 hP hD hS 16 0 rfl rfl (by assumption) (by (rw [nI_clamp (by omega)]) <;> rfl) dX9_timetable_155 (fun H locs hP hD hS => ?_)
                    have hP := va_P_eq (WM_a22 cI cZ cB a u4 k4 (u4.2.2 22 ((8 + (nI k4)).toNatClampNeg))) hP
                    have hD := va_D_eq (WM_a22 cI cZ cB a u4 k4 (u4.2.2 22 ((8 + (nI k4)).toNatClampNeg))) hD
                    refine lv_iinc (v := nI (k4 + 1)) (lv' := [(2, .int (nI (k4 + 1))), (1, .int (nI q)), (0, .ref (a 45))]) hx hb dX9_timetable_156 hl (k := 0) rfl (by first | exact nI_add _ _ | rfl) (by decide) rfl (fun ls hl => ?_)
                    refine lv_goto (tgt := 135) hx hb dX9_timetable_159 (by decide) ?_
                    exact ih_lp_tt4 _ _ _ ⟨(sa u4 22 k4 (u4.2.2 22 ((8 + (nI k4)).toNatClampNeg))), (k4 + 1), (by omega), (by omega), hP, hD, hS, (lv_sub hl [0, 1, 2] rfl), hf⟩
              · replace hf := hf.trans (if_neg ck)
                have hk : k3 < 96 := nltI (n := 96) rfl (by omega) (by omega) ck
                have i1 : vp_in (nI k3) 192 := vp_in_nI (by omega) (by omega)
                have i2 : vp_in (96 + nI k3) 192 := by rw [show (96 : Int32) + nI k3 = nI (96 + k3) from nI_add 96 _]; exact vp_in_nI (by omega) (by omega)
                refine lv_aload_n hx hb dX9_timetable_97 rfl (lv_at hl 2 rfl) ?_
                refine va_get (D := D) (ci := 10) (v := .ref (a 20)) (C := RX9) (T := TX9) (N := 45) hx hb hts im_X9_timetable_X9 hown hE.1 hP 0 rfl rfl 20 (by decide) (hts (.fieldLink RX9 54 "RiverBridgesModel" "spanFrom" "[I") (by decide +kernel)) (fun _ h9 => h9) rfl dX9_timetable_98 ?_
                refine lv_iload_n hx hb dX9_timetable_101 rfl (lv_at hl 0 rfl) ?_
                refine lv_aload_n hx hb dX9_timetable_102 rfl (lv_at hl 2 rfl) ?_
                refine va_get (D := D) (ci := 10) (v := .ref (a 20)) (C := RX9) (T := TX9) (N := 45) hx hb hts im_X9_timetable_X9 hown hE.1 hP 0 rfl rfl 20 (by decide) (hts (.fieldLink RX9 54 "RiverBridgesModel" "spanFrom" "[I") (by decide +kernel)) (fun _ h9 => h9) rfl dX9_timetable_103 ?_
                refine lv_bipush (v := 96) hx hb dX9_timetable_106 (by decide) ?_
                refine lv_iload_n hx hb dX9_timetable_108 rfl (lv_at hl 0 rfl) ?_
                refine lx_iadd (v := 96 + (nI k3)) hx hb (rfl) dX9_timetable_109 ?_
                refine lx_iald (v := u3.2.2 20 ((96 + (nI k3)).toNatClampNeg)) hx hb hE.1 hP 14 0 rfl rfl (by assumption) (rfl) dX9_timetable_110 ?_
                refine lx_iast (g := upd (u3.2.2 20) k3 (u3.2.2 20 ((96 + (nI k3)).toNatClampNeg))) hx hb hE.1 hP hD hS 14 0 rfl rfl (by assumption) (by (rw [nI_clamp (by omega)]) <;> rfl) dX9_timetable_111 (fun H locs hP hD hS => ?_)
                have hP := va_P_eq (WM_a20 cI cZ cB a u3 k3 (u3.2.2 20 ((96 + (nI k3)).toNatClampNeg))) hP
                have hD := va_D_eq (WM_a20 cI cZ cB a u3 k3 (u3.2.2 20 ((96 + (nI k3)).toNatClampNeg))) hD
                refine lv_aload_n hx hb dX9_timetable_112 rfl (lv_at hl 2 rfl) ?_
                refine va_get (D := D) (ci := 10) (v := .ref (a 21)) (C := RX9) (T := TX9) (N := 45) hx hb hts im_X9_timetable_X9 hown hE.1 hP 0 rfl rfl 21 (by decide) (hts (.fieldLink RX9 57 "RiverBridgesModel" "spanTo" "[I") (by decide +kernel)) (fun _ h9 => h9) rfl dX9_timetable_113 ?_
                refine lv_iload_n hx hb dX9_timetable_116 rfl (lv_at hl 0 rfl) ?_
                refine lv_aload_n hx hb dX9_timetable_117 rfl (lv_at hl 2 rfl) ?_
                refine va_get (D := D) (ci := 10) (v := .ref (a 21)) (C := RX9) (T := TX9) (N := 45) hx hb hts im_X9_timetable_X9 hown hE.1 hP 0 rfl rfl 21 (by decide) (hts (.fieldLink RX9 57 "RiverBridgesModel" "spanTo" "[I") (by decide +kernel)) (fun _ h9 => h9) rfl dX9_timetable_118 ?_
                refine lv_bipush (v := 96) hx hb dX9_timetable_121 (by decide) ?_
                refine lv_iload_n hx hb dX9_timetable_123 rfl (lv_at hl 0 rfl) ?_
                refine lx_iadd (v := 96 + (nI k3)) hx hb (rfl) dX9_timetable_124 ?_
                refine lx_iald (v := u3.2.2 21 ((96 + (nI k3)).toNatClampNeg)) hx hb hE.1 hP 15 0 rfl rfl (by assumption) (rfl) dX9_timetable_125 ?_
                refine lx_iast (g := upd (u3.2.2 21) k3 (u3.2.2 21 ((96 + (nI k3)).toNatClampNeg))) hx hb hE.1 hP hD hS 15 0 rfl rfl (by assumption) (by (rw [nI_clamp (by omega)]) <;> rfl) dX9_timetable_126 (fun H locs hP hD hS => ?_)
                have hP := va_P_eq (WM_a21 cI cZ cB a (sa u3 20 k3 (u3.2.2 20 ((96 + (nI k3)).toNatClampNeg))) k3 (u3.2.2 21 ((96 + (nI k3)).toNatClampNeg))) hP
                have hD := va_D_eq (WM_a21 cI cZ cB a (sa u3 20 k3 (u3.2.2 20 ((96 + (nI k3)).toNatClampNeg))) k3 (u3.2.2 21 ((96 + (nI k3)).toNatClampNeg))) hD
                refine lv_iinc (v := nI (k3 + 1)) (lv' := [(2, .int (nI (k3 + 1))), (1, .int (nI q)), (0, .ref (a 45))]) hx hb dX9_timetable_127 hl (k := 0) rfl (by first | exact nI_add _ _ | rfl) (by decide) rfl (fun ls hl => ?_)
                refine lv_goto (tgt := 91) hx hb dX9_timetable_130 (by decide) ?_
                exact ih_lp_tt3 _ _ _ ⟨(sa (sa u3 20 k3 (u3.2.2 20 ((96 + (nI k3)).toNatClampNeg))) 21 k3 (u3.2.2 21 ((96 + (nI k3)).toNatClampNeg))), (k3 + 1), (by omega), (by omega), hP, hD, hS, (lv_sub hl [0, 1, 2] rfl), hf⟩
          · replace hf := hf.trans (if_pos ce)
            refine lv_aload_n hx hb dX9_timetable_69 rfl (lv_at hl 1 rfl) ?_
            refine sf_calli (va_runV (As := []) (rest := []) ⟨hx, hb, hml, hown, hts⟩ (m_entry l D cI cZ cB cO cJ a0 H.size a _ _ _ _ _ _  u2  (hI2) (hT2)) (cwV 0 hts gX9_timetable_X9_entry rfl rfl rfl (by decide +kernel) ⟨Nat.le_of_ble_eq_true rfl, Nat.le_of_ble_eq_true rfl⟩) (preV_full hE hZ hA hS hP hD (va_recv hE.1 hP (ci := 10) (q0 := 0) rfl rfl)) rfl rfl hl.1 rfl (lv_room (Nat.le_of_ble_eq_true rfl)) dX9_timetable_70 ⟨Nat.le_of_ble_eq_true rfl, Nat.le_of_ble_eq_true rfl⟩) hP hD hS hA (fun r9 u9 H locs hw hP hD hS => ?_)
            subst hw
            have hP : va_P D vwCl (WM cI cZ cB a ((f_entry u2).2)) H := hP
            have hD : va_D A (WM cI cZ cB a ((f_entry u2).2)) := hD
            have hes := entry_es hI2 hT2
            generalize ev4 : f_entry u2 = v4 at hP hD hf hes ⊢
            refine lv_if_ne (tgt := 83) hx hb dX9_timetable_73 (by decide) (fun cs => ?_) (fun cs => ?_)
            · replace hf := hf.trans (if_neg cs)
              obtain ⟨i8, j8, f1, f2, f3, f5, f4⟩ := hes.2.2
              have f6 := f4 cs
              refine lv_iinc (v := nI (q + 1)) (lv' := [(1, .int (nI (q + 1))), (0, .ref (a 45))]) hx hb dX9_timetable_83 hl (k := 0) rfl (by first | exact nI_add _ _ | rfl) (by decide) rfl (fun ls hl => ?_)
              refine lv_goto (tgt := 62) hx hb dX9_timetable_86 (by decide) ?_
              exact ih_lp_tt2 _ _ _ ⟨v4.2, (q + 1), (by omega), (hes.1), (hes.2.1), (⟨j8, f2, f5, by have e9 : i = i8 := (nI_eq (by omega) (by omega)).mp (ei.symm.trans f1); omega⟩), hP, hD, hS, (lv_sub hl [0, 1] rfl), hf⟩
            · replace hf := hf.trans (if_pos cs)
              refine lv_iconst (v := -1) hx hb dX9_timetable_76 (by decide) ?_
              refine lv_aload_n hx hb dX9_timetable_77 rfl (lv_at hl 1 rfl) ?_
              refine va_get (D := D) (ci := 10) (v := .int (v4.2.1 28)) (C := RX9) (T := TX9) (N := 45) hx hb hts im_X9_timetable_X9 hown hE.1 hP 0 rfl rfl 28 (by decide) (hts (.fieldLink RX9 163 "RiverBridgesModel" "faultAt" "I") (by decide +kernel)) (fun _ h9 => h9) rfl dX9_timetable_78 ?_
              refine lx_isub (v := (-1) - (v4.2.1 28)) hx hb (rfl) dX9_timetable_81 ?_
              exact ss_iret () hx hb hr hlocks (by rw [hf]; exact hP) (by rw [hf]; exact hD) hS (by rw [hf]) (Nat.le_of_ble_eq_true rfl) (Nat.le_of_ble_eq_true rfl) dX9_timetable_82
      · replace hf := hf.trans (if_neg ck)
        have hk : k < 8 := nltI (n := 8) rfl (by omega) (by omega) ck
        have i1 : vp_in (nI k) 8 := vp_in_nI hk (by omega)
        have i2 : vp_in (8 + nI k) 16 := ix_add8 ⟨k, hk, rfl⟩
        refine lv_aload_n hx hb dX9_timetable_33 rfl (lv_at hl 1 rfl) ?_
        refine va_get (D := D) (ci := 10) (v := .ref (a 23)) (C := RX9) (T := TX9) (N := 45) hx hb hts im_X9_timetable_X9 hown hE.1 hP 0 rfl rfl 23 (by decide) (hts (.fieldLink RX9 63 "RiverBridgesModel" "isTold" "[Z") (by decide +kernel)) (fun _ h9 => h9) rfl dX9_timetable_34 ?_
        refine lv_iload_n hx hb dX9_timetable_37 rfl (lv_at hl 0 rfl) ?_
        refine lv_iconst (v := 0) hx hb dX9_timetable_38 (by decide) ?_
        refine lx_zast (g := upd (u1.2.2 23) k (vp_nar .boolean 0)) hx hb hE.1 hP hD hS 17 1 rfl rfl (by assumption) (by (rw [nI_clamp (by omega)]) <;> rfl) dX9_timetable_39 (fun H locs hP hD hS => ?_)
        have hP := va_P_eq (WM_a23 cI cZ cB a u1 k (vp_nar .boolean 0)) hP
        have hD := va_D_eq (WM_a23 cI cZ cB a u1 k (vp_nar .boolean 0)) hD
        refine lv_aload_n hx hb dX9_timetable_40 rfl (lv_at hl 1 rfl) ?_
        refine va_get (D := D) (ci := 10) (v := .ref (a 22)) (C := RX9) (T := TX9) (N := 45) hx hb hts im_X9_timetable_X9 hown hE.1 hP 0 rfl rfl 22 (by decide) (hts (.fieldLink RX9 60 "RiverBridgesModel" "spans" "[I") (by decide +kernel)) (fun _ h9 => h9) rfl dX9_timetable_41 ?_
        refine lv_bipush (v := 8) hx hb dX9_timetable_44 (by decide) ?_
        refine lv_iload_n hx hb dX9_timetable_46 rfl (lv_at hl 0 rfl) ?_
        refine lx_iadd (v := 8 + (nI k)) hx hb (rfl) dX9_timetable_47 ?_
        refine lv_iconst (v := 0) hx hb dX9_timetable_48 (by decide) ?_
        refine lx_iast (g := upd (u1.2.2 22) ((8 + (nI k)).toNatClampNeg) 0) hx hb hE.1 hP hD hS 16 0 rfl rfl (by assumption) (rfl) dX9_timetable_49 (fun H locs hP hD hS => ?_)
        have hP := va_P_eq (WM_a22 cI cZ cB a (sa u1 23 k (vp_nar .boolean 0)) ((8 + (nI k)).toNatClampNeg) 0) hP
        have hD := va_D_eq (WM_a22 cI cZ cB a (sa u1 23 k (vp_nar .boolean 0)) ((8 + (nI k)).toNatClampNeg) 0) hD
        refine lv_iinc (v := nI (k + 1)) (lv' := [(1, .int (nI (k + 1))), (0, .ref (a 45))]) hx hb dX9_timetable_50 hl (k := 0) rfl (by first | exact nI_add _ _ | rfl) (by decide) rfl (fun ls hl => ?_)
        refine lv_goto (tgt := 27) hx hb dX9_timetable_53 (by decide) ?_
        exact ih_lp_tt1 _ _ _ ⟨(sa (sa u1 23 k (vp_nar .boolean 0)) 22 ((8 + (nI k)).toNatClampNeg) 0), (k + 1), (by omega), (by omega), (MI_22 (MI_sa hI1 (by decide)) ⟨0, by omega, rfl⟩), (hT1), hP, hD, hS, (lv_sub hl [0, 1] rfl), hf⟩
  · replace hf := hf.trans (if_neg c2)
    refine lv_sipush (v := -500) hx hb dX9_timetable_16 (by decide) ?_
    exact ss_iret () hx hb hr hlocks (by rw [hf]; exact hP) (by rw [hf]; exact hD) hS (by rw [hf]) (Nat.le_of_ble_eq_true rfl) (Nat.le_of_ble_eq_true rfl) dX9_timetable_19
