theorem isIn_ix {u : RS} {v hi : Int32} {n : Nat} (hn : hi = nI n ∧ n + 1 < 2 ^ 31) (h : ¬ f_isIn u v 0 hi = 0) : ixN v (n + 1) := by
  rw [f_isIn_s] at h
  by_cases h1 : v < 0
  · rw [if_pos h1] at h; exact absurd rfl h
  rw [if_neg h1] at h
  by_cases h2 : hi < v
  · rw [if_pos h2] at h; exact absurd rfl h
  obtain ⟨j, hj, rfl⟩ := nI_of h1
  refine ⟨j, ?_, rfl⟩
  rw [hn.1, nI_ltI (by omega) hj] at h2
  omega
theorem isShip_ix {nB nS nK mi ln : Nat} {u : RS} {v : Int32} (hI : MI nB nS nK mi ln u) (h : ¬ f_isShip u v = 0) : ixN v nS := by
  rw [f_isShip_s] at h
  by_cases h1 : v < 0
  · rw [if_pos h1] at h; exact absurd rfl h
  rw [if_neg h1] at h
  by_cases h2 : u.1 40 ≤ v
  · rw [if_pos h2] at h; exact absurd rfl h
  exact ixN.of hI.nS.1 (by have := hI.nS.2; omega) h1 h2
theorem isBridge_ix {nB nS nK mi ln : Nat} {u : RS} {v : Int32} (hI : MI nB nS nK mi ln u) (h : ¬ f_isBridge u v = 0) : ixN v nB := by
  rw [f_isBridge_s] at h
  by_cases h1 : v < 0
  · rw [if_pos h1] at h; exact absurd rfl h
  rw [if_neg h1] at h
  by_cases h2 : u.1 17 ≤ v
  · rw [if_pos h2] at h; exact absurd rfl h
  exact ixN.of hI.nB.1 (by have := hI.nB.2; omega) h1 h2
theorem ix_pred {x : Int32} {n : Nat} (h : ixN x n) (hn : n ≤ 8) (h0 : ¬ x = 0) : vp_in (x - 1) 8 := by
  obtain ⟨j, hj, rfl⟩ := h
  cases j with
  | zero => exact absurd rfl h0
  | succ j => rw [nI_pred]; exact vp_in_nI (by omega) (by omega)
theorem f_first_1 (u : RS) : f_first u 1 = 0 := by rw [f_first_s]; exact if_neg (by decide)
def lp_hasKeeper (u : RS) (b : Int32) (oc : Int32) : Nat → Int32 → Nat → Int32
  | 0, x1, k => x1
  | n + 1, x1, k => (if u.1 44 ≤ nI k then x1 else (if x1 = 0 then (if u.2.2 41 k = b then (lp_hasKeeper u b oc n 1 (k + 1)) else (if oc = 0 then (lp_hasKeeper u b oc n 0 (k + 1)) else (if u.2.2 42 k = b then (lp_hasKeeper u b oc n 1 (k + 1)) else (lp_hasKeeper u b oc n 0 (k + 1))))) else (lp_hasKeeper u b oc n 1 (k + 1))))
theorem lp_hasKeeper_s (u : RS) (b : Int32) (oc : Int32) (n : Nat) (x1 : Int32) (k : Nat) : lp_hasKeeper u b oc (n + 1) x1 k = (if u.1 44 ≤ nI k then x1 else (if x1 = 0 then (if u.2.2 41 k = b then (lp_hasKeeper u b oc n 1 (k + 1)) else (if oc = 0 then (lp_hasKeeper u b oc n 0 (k + 1)) else (if u.2.2 42 k = b then (lp_hasKeeper u b oc n 1 (k + 1)) else (lp_hasKeeper u b oc n 0 (k + 1))))) else (lp_hasKeeper u b oc n 1 (k + 1)))) := rfl
def f_hasKeeper (u : RS) (b : Int32) (oc : Int32) : Int32 := (lp_hasKeeper u b oc 5 0 0)
theorem f_hasKeeper_s (u : RS) (b : Int32) (oc : Int32) : f_hasKeeper u b oc = (lp_hasKeeper u b oc 5 0 0) := rfl
theorem im_X9_hasKeeper_X9 : ∀ w ∈ wsX90, w ∈ wsX9_hasKeeper := fun _ h => List.mem_cons_of_mem _ (List.mem_append_right _ h)
set_option maxHeartbeats 400000 in
set_option maxRecDepth 100000 in
theorem m_hasKeeper (l : Launch) (D : va_G) (cI cZ cB cO cJ : ClassId) (a0 sz : Nat) (a : Nat → Nat) (nB nS nK mi ln : Nat) (u : RS) (b : Int32) (oc : Int32) (hI : MI nB nS nK mi ln u) : Met l yX9_hasKeeper wsX9_hasKeeper ({ frames := 0, cells := 0, slots := 0, locals := 0 }) (Pcs D cI cZ cB cO cJ a0 [.ref (a 45), .int b, .int oc] (WM cI cZ cB a u) sz) (va_Qi (fun (r : Int32) (_ : Unit) => r = f_hasKeeper u b oc) (fun (_ : Unit) t => va_P D vwCl (WM cI cZ cB a u) t.heap ∧ va_D (va_A (WM cI cZ cB a u) sz) (WM cI cZ cB a u)) (va_A (WM cI cZ cB a u) sz)) 0 0 (va_A (WM cI cZ cB a u) sz) := by
  refine Met.ofW (cc := cX9_hasKeeper) (maxL := 5) (ret := (some .boolean)) (by decide) rfl ?_
  intro p e s m args below meth c s₁ B hml hv
  obtain ⟨rfl, hsz, hP, hE, hD0, hZ⟩ := hv
  have hx := B.exec
  have hb := B.bytes
  have hr := B.returns
  have hts := atoms_spec (ws := wsX9_hasKeeper) B.pre
  have hown : s.vm.findClass RX9 = some m.cls := findClass_of_methodNamed B.named
  have hlocks := B.notSynchronized
  subst hsz
  have hD := hD0.self (sz := s.heap.size)
  generalize hAe : va_A (WM cI cZ cB a u) s.heap.size = A at hD hZ ⊢
  have hA : ∀ q : Nat, s.heap.size ≤ q → A q := fun q h => by rw [← hAe]; exact Or.inr h
  clear hAe
  have hS : va_S A s.heap s.heap [] := va_S.rf
  have hP : va_P D vwCl (WM cI cZ cB a u) s.heap := hP
  have hl := lv_entry ([.ref (a 45), .int b, .int oc]) (n := 5) (Nat.le_of_ble_eq_true rfl)
  rw [lg_entry_eq]
  generalize (lg_sl ([.ref (a 45), .int b, .int oc]) ++ List.replicate (5 - (lg_sl ([.ref (a 45), .int b, .int oc])).length) Slot.unset).toArray = ls at hl ⊢
  have hl : lv_has ls 5 [(0, .ref (a 45)), (1, .int b), (2, .int oc)] := hl
  have hf := f_hasKeeper_s u b oc
  refine lv_iconst (v := 0) hx hb dX9_hasKeeper_0 (by decide) ?_
  refine lv_istore_n (lv' := [(3, .int 0), (0, .ref (a 45)), (1, .int b), (2, .int oc)]) hx hb dX9_hasKeeper_1 rfl hl (by decide) rfl (fun ls hl => ?_)
  refine lv_iconst (v := 0) hx hb dX9_hasKeeper_2 (by decide) ?_
  refine lv_istore (lv' := [(4, .int 0), (3, .int 0), (0, .ref (a 45)), (1, .int b), (2, .int oc)]) hx hb dX9_hasKeeper_3 hl (by decide) rfl (fun ls hl => ?_)
  have hf_lp_hasKeeper := hf
  refine ss_ind (J := fun n H locs ls => ∃ (x1 : Int32) (k : Nat), (k + n = 5) ∧ (k ≤ nK) ∧ (x1 = 0 ∨ x1 = 1) ∧ va_P D vwCl (WM cI cZ cB a u) H ∧ va_D A (WM cI cZ cB a u) ∧ va_S A s.heap H locs ∧ lv_has ls 5 [(3, .int x1), (4, .int (nI k)), (0, .ref (a 45)), (1, .int b), (2, .int oc)] ∧ lp_hasKeeper u b oc 5 0 0 = lp_hasKeeper u b oc n x1 k) ?_ ?_ (5) _ _ _ ⟨0, 0, (rfl), (Nat.zero_le _), (Or.inl rfl), hP, hD, hS, (lv_sub hl [1, 0, 2, 3, 4] rfl), rfl⟩
  all_goals clear hf
  · intro H locs ls hJ
    obtain ⟨x1, k, hkn, hkw, hx1, hP, hD, hS, hl, hf⟩ := hJ
    have := hI.nK.2; omega
  · intro n_lp_hasKeeper ih_lp_hasKeeper H locs ls hJ
    obtain ⟨x1, k, hkn, hkw, hx1, hP, hD, hS, hl, hf⟩ := hJ
    replace hf := hf.trans (lp_hasKeeper_s _ _ _ n_lp_hasKeeper _ _)
    refine lv_iload hx hb dX9_hasKeeper_5 (lv_at hl 1 rfl) ?_
    refine lv_aload_n hx hb dX9_hasKeeper_7 rfl (lv_at hl 2 rfl) ?_
    refine va_get (D := D) (ci := 10) (v := .int (u.1 44)) (C := RX9) (T := TX9) (N := 45) hx hb hts im_X9_hasKeeper_X9 hown hE.1 hP 0 rfl rfl 44 (by decide) (hts (.fieldLink RX9 215 "RiverBridgesModel" "keepers" "I") (by decide +kernel)) (fun _ h9 => h9) rfl dX9_hasKeeper_8 ?_
    refine lv_icmp_ge (tgt := 56) hx hb dX9_hasKeeper_11 (by decide) (fun ck => ?_) (fun ck => ?_)
    · replace hf := hf.trans (if_pos ck)
      have e90 : (lp_hasKeeper u b oc 5 0 0) = x1 := by rw [hf]
      clear hf
      have hf := hf_lp_hasKeeper
      try rw [e90] at hf
      clear ih_lp_hasKeeper e90
      have hl : lv_has ls 5 [(3, .int x1), (0, .ref (a 45)), (1, .int b), (2, .int oc)] := lv_sub hl [0, 2, 3, 4] rfl
      refine lv_iload_n hx hb dX9_hasKeeper_56 rfl (lv_at hl 0 rfl) ?_
      exact ss_zret () hx hb hr hlocks (nar01 hx1) hP hD hS (by rw [hf]) (Nat.le_of_ble_eq_true rfl) (Nat.le_of_ble_eq_true rfl) dX9_hasKeeper_57
    · replace hf := hf.trans (if_neg ck)
      have hk : k < nK := nltI hI.nK.1 (by have := hI.nK.2; omega) (by omega) ck
      have i2 : vp_in (nI k) 4 := vp_in_nI (by have := hI.nK.2; omega) (by omega)
      refine lv_iload_n hx hb dX9_hasKeeper_14 rfl (lv_at hl 0 rfl) ?_
      refine lv_if_ne (tgt := 44) hx hb dX9_hasKeeper_15 (by decide) (fun c1 => ?_) (fun c1 => ?_)
      · replace hf := hf.trans (if_neg c1)
        refine lv_iconst (v := 1) hx hb dX9_hasKeeper_44 (by decide) ?_
        refine lv_goto (tgt := 49) hx hb dX9_hasKeeper_45 (by decide) ?_
        refine lv_istore_n (lv' := [(3, .int 1), (4, .int (nI k)), (0, .ref (a 45)), (1, .int b), (2, .int oc)]) hx hb dX9_hasKeeper_49 rfl hl (by decide) rfl (fun ls hl => ?_)
        refine lv_iinc (v := nI (k + 1)) (lv' := [(4, .int (nI (k + 1))), (3, .int 1), (0, .ref (a 45)), (1, .int b), (2, .int oc)]) hx hb dX9_hasKeeper_50 hl (k := 1) rfl (by first | exact nI_add _ _ | rfl) (by decide) rfl (fun ls hl => ?_)
        refine lv_goto (tgt := 5) hx hb dX9_hasKeeper_53 (by decide) ?_
        exact ih_lp_hasKeeper _ _ _ ⟨1, (k + 1), (by omega), (by omega), (by first | exact Or.inl rfl | exact Or.inr rfl | assumption), hP, hD, hS, (lv_sub hl [1, 0, 2, 3, 4] rfl), hf⟩
      · replace hf := hf.trans (if_pos c1)
        refine lv_aload_n hx hb dX9_hasKeeper_18 rfl (lv_at hl 2 rfl) ?_
        refine va_get (D := D) (ci := 10) (v := .ref (a 41)) (C := RX9) (T := TX9) (N := 45) hx hb hts im_X9_hasKeeper_X9 hown hE.1 hP 0 rfl rfl 41 (by decide) (hts (.fieldLink RX9 94 "RiverBridgesModel" "keeperAt" "[I") (by decide +kernel)) (fun _ h9 => h9) rfl dX9_hasKeeper_19 ?_
        refine lv_iload hx hb dX9_hasKeeper_22 (lv_at hl 1 rfl) ?_
        refine lx_iald (v := u.2.2 41 k) hx hb hE.1 hP 27 0 rfl rfl (by assumption) (by (rw [nI_clamp (by omega)]) <;> rfl) dX9_hasKeeper_24 ?_
        refine lv_iload_n hx hb dX9_hasKeeper_25 rfl (lv_at hl 3 rfl) ?_
        refine lv_icmp_eq (tgt := 44) hx hb dX9_hasKeeper_26 (by decide) (fun c2 => ?_) (fun c2 => ?_)
        · replace hf := hf.trans (if_pos c2)
          refine lv_iconst (v := 1) hx hb dX9_hasKeeper_44 (by decide) ?_
          refine lv_goto (tgt := 49) hx hb dX9_hasKeeper_45 (by decide) ?_
          refine lv_istore_n (lv' := [(3, .int 1), (4, .int (nI k)), (0, .ref (a 45)), (1, .int b), (2, .int oc)]) hx hb dX9_hasKeeper_49 rfl hl (by decide) rfl (fun ls hl => ?_)
          refine lv_iinc (v := nI (k + 1)) (lv' := [(4, .int (nI (k + 1))), (3, .int 1), (0, .ref (a 45)), (1, .int b), (2, .int oc)]) hx hb dX9_hasKeeper_50 hl (k := 1) rfl (by first | exact nI_add _ _ | rfl) (by decide) rfl (fun ls hl => ?_)
          refine lv_goto (tgt := 5) hx hb dX9_hasKeeper_53 (by decide) ?_
          exact ih_lp_hasKeeper _ _ _ ⟨1, (k + 1), (by omega), (by omega), (by first | exact Or.inl rfl | exact Or.inr rfl | assumption), hP, hD, hS, (lv_sub hl [1, 0, 2, 3, 4] rfl), hf⟩
        · replace hf := hf.trans (if_neg c2)
          refine lv_iload_n hx hb dX9_hasKeeper_29 rfl (lv_at hl 4 rfl) ?_
          refine lv_if_eq (tgt := 48) hx hb dX9_hasKeeper_30 (by decide) (fun c3 => ?_) (fun c3 => ?_)
          · replace hf := hf.trans (if_pos c3)
            refine lv_iconst (v := 0) hx hb dX9_hasKeeper_48 (by decide) ?_
            refine lv_istore_n (lv' := [(3, .int 0), (4, .int (nI k)), (0, .ref (a 45)), (1, .int b), (2, .int oc)]) hx hb dX9_hasKeeper_49 rfl hl (by decide) rfl (fun ls hl => ?_)
            refine lv_iinc (v := nI (k + 1)) (lv' := [(4, .int (nI (k + 1))), (3, .int 0), (0, .ref (a 45)), (1, .int b), (2, .int oc)]) hx hb dX9_hasKeeper_50 hl (k := 1) rfl (by first | exact nI_add _ _ | rfl) (by decide) rfl (fun ls hl => ?_)
            refine lv_goto (tgt := 5) hx hb dX9_hasKeeper_53 (by decide) ?_
            exact ih_lp_hasKeeper _ _ _ ⟨0, (k + 1), (by omega), (by omega), (by first | exact Or.inl rfl | exact Or.inr rfl | assumption), hP, hD, hS, (lv_sub hl [1, 0, 2, 3, 4] rfl), hf⟩
          · replace hf := hf.trans (if_neg c3)
            refine lv_aload_n hx hb dX9_hasKeeper_33 rfl (lv_at hl 2 rfl) ?_
            refine va_get (D := D) (ci := 10) (v := .ref (a 42)) (C := RX9) (T := TX9) (N := 45) hx hb hts im_X9_hasKeeper_X9 hown hE.1 hP 0 rfl rfl 42 (by decide) (hts (.fieldLink RX9 97 "RiverBridgesModel" "keeperTo" "[I") (by decide +kernel)) (fun _ h9 => h9) rfl dX9_hasKeeper_34 ?_
            refine lv_iload hx hb dX9_hasKeeper_37 (lv_at hl 1 rfl) ?_
            refine lx_iald (v := u.2.2 42 k) hx hb hE.1 hP 28 0 rfl rfl (by assumption) (by (rw [nI_clamp (by omega)]) <;> rfl) dX9_hasKeeper_39 ?_
            refine lv_iload_n hx hb dX9_hasKeeper_40 rfl (lv_at hl 3 rfl) ?_
            refine lv_icmp_ne (tgt := 48) hx hb dX9_hasKeeper_41 (by decide) (fun c4 => ?_) (fun c4 => ?_)
            · replace hf := hf.trans (if_neg c4)
              refine lv_iconst (v := 0) hx hb dX9_hasKeeper_48 (by decide) ?_
              refine lv_istore_n (lv' := [(3, .int 0), (4, .int (nI k)), (0, .ref (a 45)), (1, .int b), (2, .int oc)]) hx hb dX9_hasKeeper_49 rfl hl (by decide) rfl (fun ls hl => ?_)
              refine lv_iinc (v := nI (k + 1)) (lv' := [(4, .int (nI (k + 1))), (3, .int 0), (0, .ref (a 45)), (1, .int b), (2, .int oc)]) hx hb dX9_hasKeeper_50 hl (k := 1) rfl (by first | exact nI_add _ _ | rfl) (by decide) rfl (fun ls hl => ?_)
              refine lv_goto (tgt := 5) hx hb dX9_hasKeeper_53 (by decide) ?_
              exact ih_lp_hasKeeper _ _ _ ⟨0, (k + 1), (by omega), (by omega), (by first | exact Or.inl rfl | exact Or.inr rfl | assumption), hP, hD, hS, (lv_sub hl [1, 0, 2, 3, 4] rfl), hf⟩
            · replace hf := hf.trans (if_pos c4)
              refine lv_iconst (v := 1) hx hb dX9_hasKeeper_44 (by decide) ?_
              refine lv_goto (tgt := 49) hx hb dX9_hasKeeper_45 (by decide) ?_
              refine lv_istore_n (lv' := [(3, .int 1), (4, .int (nI k)), (0, .ref (a 45)), (1, .int b), (2, .int oc)]) hx hb dX9_hasKeeper_49 rfl hl (by decide) rfl (fun ls hl => ?_)
              refine lv_iinc (v := nI (k + 1)) (lv' := [(4, .int (nI (k + 1))), (3, .int 1), (0, .ref (a 45)), (1, .int b), (2, .int oc)]) hx hb dX9_hasKeeper_50 hl (k := 1) rfl (by first | exact nI_add _ _ | rfl) (by decide) rfl (fun ls hl => ?_)
              refine lv_goto (tgt := 5) hx hb dX9_hasKeeper_53 (by decide) ?_
              exact ih_lp_hasKeeper _ _ _ ⟨1, (k + 1), (by omega), (by omega), (by first | exact Or.inl rfl | exact Or.inr rfl | assumption), hP, hD, hS, (lv_sub hl [1, 0, 2, 3, 4] rfl), hf⟩
def lp_isWanted (u : RS) (b : Int32) : Nat → Int32 → Nat → Int32
  | 0, x1, k => x1
  | n + 1, x1, k => (if u.1 40 ≤ nI k then x1 else (if x1 = 0 then (if u.2.2 32 k = 1 then (if u.2.2 33 k = b then (lp_isWanted u b n 1 (k + 1)) else (lp_isWanted u b n 0 (k + 1))) else (lp_isWanted u b n 0 (k + 1))) else (lp_isWanted u b n 1 (k + 1))))
theorem lp_isWanted_s (u : RS) (b : Int32) (n : Nat) (x1 : Int32) (k : Nat) : lp_isWanted u b (n + 1) x1 k = (if u.1 40 ≤ nI k then x1 else (if x1 = 0 then (if u.2.2 32 k = 1 then (if u.2.2 33 k = b then (lp_isWanted u b n 1 (k + 1)) else (lp_isWanted u b n 0 (k + 1))) else (lp_isWanted u b n 0 (k + 1))) else (lp_isWanted u b n 1 (k + 1)))) := rfl
def f_isWanted (u : RS) (b : Int32) : Int32 := (lp_isWanted u b 41 0 0)
theorem f_isWanted_s (u : RS) (b : Int32) : f_isWanted u b = (lp_isWanted u b 41 0 0) := rfl
theorem im_X9_isWanted_X9 : ∀ w ∈ wsX90, w ∈ wsX9_isWanted := fun _ h => List.mem_cons_of_mem _ (List.mem_append_right _ h)
set_option maxHeartbeats 400000 in
set_option maxRecDepth 100000 in
theorem m_isWanted (l : Launch) (D : va_G) (cI cZ cB cO cJ : ClassId) (a0 sz : Nat) (a : Nat → Nat) (nB nS nK mi ln : Nat) (u : RS) (b : Int32) (hI : MI nB nS nK mi ln u) : Met l yX9_isWanted wsX9_isWanted ({ frames := 0, cells := 0, slots := 0, locals := 0 }) (Pcs D cI cZ cB cO cJ a0 [.ref (a 45), .int b] (WM cI cZ cB a u) sz) (va_Qi (fun (r : Int32) (_ : Unit) => r = f_isWanted u b) (fun (_ : Unit) t => va_P D vwCl (WM cI cZ cB a u) t.heap ∧ va_D (va_A (WM cI cZ cB a u) sz) (WM cI cZ cB a u)) (va_A (WM cI cZ cB a u) sz)) 0 0 (va_A (WM cI cZ cB a u) sz) := by
  refine Met.ofW (cc := cX9_isWanted) (maxL := 4) (ret := (some .boolean)) (by decide) rfl ?_
  intro p e s m args below meth c s₁ B hml hv
  obtain ⟨rfl, hsz, hP, hE, hD0, hZ⟩ := hv
  have hx := B.exec
  have hb := B.bytes
  have hr := B.returns
  have hts := atoms_spec (ws := wsX9_isWanted) B.pre
  have hown : s.vm.findClass RX9 = some m.cls := findClass_of_methodNamed B.named
  have hlocks := B.notSynchronized
  subst hsz
  have hD := hD0.self (sz := s.heap.size)
  generalize hAe : va_A (WM cI cZ cB a u) s.heap.size = A at hD hZ ⊢
  have hA : ∀ q : Nat, s.heap.size ≤ q → A q := fun q h => by rw [← hAe]; exact Or.inr h
  clear hAe
  have hS : va_S A s.heap s.heap [] := va_S.rf
  have hP : va_P D vwCl (WM cI cZ cB a u) s.heap := hP
  have hl := lv_entry ([.ref (a 45), .int b]) (n := 4) (Nat.le_of_ble_eq_true rfl)
  rw [lg_entry_eq]
  generalize (lg_sl ([.ref (a 45), .int b]) ++ List.replicate (4 - (lg_sl ([.ref (a 45), .int b])).length) Slot.unset).toArray = ls at hl ⊢
  have hl : lv_has ls 4 [(0, .ref (a 45)), (1, .int b)] := hl
  have hf := f_isWanted_s u b
  refine lv_iconst (v := 0) hx hb dX9_isWanted_0 (by decide) ?_
  refine lv_istore_n (lv' := [(2, .int 0), (0, .ref (a 45)), (1, .int b)]) hx hb dX9_isWanted_1 rfl hl (by decide) rfl (fun ls hl => ?_)
  refine lv_iconst (v := 0) hx hb dX9_isWanted_2 (by decide) ?_
  refine lv_istore_n (lv' := [(3, .int 0), (2, .int 0), (0, .ref (a 45)), (1, .int b)]) hx hb dX9_isWanted_3 rfl hl (by decide) rfl (fun ls hl => ?_)
  have hf_lp_isWanted := hf
  refine ss_ind (J := fun n H locs ls => ∃ (x1 : Int32) (k : Nat), (k + n = 41) ∧ (k ≤ nS) ∧ (x1 = 0 ∨ x1 = 1) ∧ va_P D vwCl (WM cI cZ cB a u) H ∧ va_D A (WM cI cZ cB a u) ∧ va_S A s.heap H locs ∧ lv_has ls 4 [(2, .int x1), (3, .int (nI k)), (0, .ref (a 45)), (1, .int b)] ∧ lp_isWanted u b 41 0 0 = lp_isWanted u b n x1 k) ?_ ?_ (41) _ _ _ ⟨0, 0, (rfl), (Nat.zero_le _), (Or.inl rfl), hP, hD, hS, (lv_sub hl [1, 0, 2, 3] rfl), rfl⟩
  all_goals clear hf
  · intro H locs ls hJ
    obtain ⟨x1, k, hkn, hkw, hx1, hP, hD, hS, hl, hf⟩ := hJ
    have := hI.nS.2; omega
  · intro n_lp_isWanted ih_lp_isWanted H locs ls hJ
    obtain ⟨x1, k, hkn, hkw, hx1, hP, hD, hS, hl, hf⟩ := hJ
    replace hf := hf.trans (lp_isWanted_s _ _ n_lp_isWanted _ _)
    refine lv_iload_n hx hb dX9_isWanted_4 rfl (lv_at hl 1 rfl) ?_
    refine lv_aload_n hx hb dX9_isWanted_5 rfl (lv_at hl 2 rfl) ?_
    refine va_get (D := D) (ci := 10) (v := .int (u.1 40)) (C := RX9) (T := TX9) (N := 45) hx hb hts im_X9_isWanted_X9 hown hE.1 hP 0 rfl rfl 40 (by decide) (hts (.fieldLink RX9 208 "RiverBridgesModel" "ships" "I") (by decide +kernel)) (fun _ h9 => h9) rfl dX9_isWanted_6 ?_
    refine lv_icmp_ge (tgt := 48) hx hb dX9_isWanted_9 (by decide) (fun ck => ?_) (fun ck => ?_)
    · replace hf := hf.trans (if_pos ck)
      have e90 : (lp_isWanted u b 41 0 0) = x1 := by rw [hf]
      clear hf
      have hf := hf_lp_isWanted
      try rw [e90] at hf
      clear ih_lp_isWanted e90
      have hl : lv_has ls 4 [(2, .int x1), (0, .ref (a 45)), (1, .int b)] := lv_sub hl [0, 2, 3] rfl
      refine lv_iload_n hx hb dX9_isWanted_48 rfl (lv_at hl 0 rfl) ?_
      exact ss_zret () hx hb hr hlocks (nar01 hx1) hP hD hS (by rw [hf]) (Nat.le_of_ble_eq_true rfl) (Nat.le_of_ble_eq_true rfl) dX9_isWanted_49
    · replace hf := hf.trans (if_neg ck)
      have hk : k < nS := nltI hI.nS.1 (by have := hI.nS.2; omega) (by omega) ck
      have i2 : vp_in (nI k) 40 := vp_in_nI (by have := hI.nS.2; omega) (by omega)
      refine lv_iload_n hx hb dX9_isWanted_12 rfl (lv_at hl 0 rfl) ?_
      refine lv_if_ne (tgt := 36) hx hb dX9_isWanted_13 (by decide) (fun c1 => ?_) (fun c1 => ?_)
      · replace hf := hf.trans (if_neg c1)
        refine lv_iconst (v := 1) hx hb dX9_isWanted_36 (by decide) ?_
        refine lv_goto (tgt := 41) hx hb dX9_isWanted_37 (by decide) ?_
        refine lv_istore_n (lv' := [(2, .int 1), (3, .int (nI k)), (0, .ref (a 45)), (1, .int b)]) hx hb dX9_isWanted_41 rfl hl (by decide) rfl (fun ls hl => ?_)
        refine lv_iinc (v := nI (k + 1)) (lv' := [(3, .int (nI (k + 1))), (2, .int 1), (0, .ref (a 45)), (1, .int b)]) hx hb dX9_isWanted_42 hl (k := 1) rfl (by first | exact nI_add _ _ | rfl) (by decide) rfl (fun ls hl => ?_)
        refine lv_goto (tgt := 4) hx hb dX9_isWanted_45 (by decide) ?_
        exact ih_lp_isWanted _ _ _ ⟨1, (k + 1), (by omega), (by omega), (by first | exact Or.inl rfl | exact Or.inr rfl | assumption), hP, hD, hS, (lv_sub hl [1, 0, 2, 3] rfl), hf⟩
      · replace hf := hf.trans (if_pos c1)
        refine lv_aload_n hx hb dX9_isWanted_16 rfl (lv_at hl 2 rfl) ?_
        refine va_get (D := D) (ci := 10) (v := .ref (a 32)) (C := RX9) (T := TX9) (N := 45) hx hb hts im_X9_isWanted_X9 hown hE.1 hP 0 rfl rfl 32 (by decide) (hts (.fieldLink RX9 70 "RiverBridgesModel" "ship" "[I") (by decide +kernel)) (fun _ h9 => h9) rfl dX9_isWanted_17 ?_
        refine lv_iload_n hx hb dX9_isWanted_20 rfl (lv_at hl 1 rfl) ?_
        refine lx_iald (v := u.2.2 32 k) hx hb hE.1 hP 19 0 rfl rfl (by assumption) (by (rw [nI_clamp (by omega)]) <;> rfl) dX9_isWanted_21 ?_
        refine lv_iconst (v := 1) hx hb dX9_isWanted_22 (by decide) ?_
        refine lv_icmp_ne (tgt := 40) hx hb dX9_isWanted_23 (by decide) (fun c2 => ?_) (fun c2 => ?_)
        · replace hf := hf.trans (if_neg c2)
          refine lv_iconst (v := 0) hx hb dX9_isWanted_40 (by decide) ?_
          refine lv_istore_n (lv' := [(2, .int 0), (3, .int (nI k)), (0, .ref (a 45)), (1, .int b)]) hx hb dX9_isWanted_41 rfl hl (by decide) rfl (fun ls hl => ?_)
          refine lv_iinc (v := nI (k + 1)) (lv' := [(3, .int (nI (k + 1))), (2, .int 0), (0, .ref (a 45)), (1, .int b)]) hx hb dX9_isWanted_42 hl (k := 1) rfl (by first | exact nI_add _ _ | rfl) (by decide) rfl (fun ls hl => ?_)
          refine lv_goto (tgt := 4) hx hb dX9_isWanted_45 (by decide) ?_
          exact ih_lp_isWanted _ _ _ ⟨0, (k + 1), (by omega), (by omega), (by first | exact Or.inl rfl | exact Or.inr rfl | assumption), hP, hD, hS, (lv_sub hl [1, 0, 2, 3] rfl), hf⟩
        · replace hf := hf.trans (if_pos c2)
          refine lv_aload_n hx hb dX9_isWanted_26 rfl (lv_at hl 2 rfl) ?_
          refine va_get (D := D) (ci := 10) (v := .ref (a 33)) (C := RX9) (T := TX9) (N := 45) hx hb hts im_X9_isWanted_X9 hown hE.1 hP 0 rfl rfl 33 (by decide) (hts (.fieldLink RX9 73 "RiverBridgesModel" "where" "[I") (by decide +kernel)) (fun _ h9 => h9) rfl dX9_isWanted_27 ?_
          refine lv_iload_n hx hb dX9_isWanted_30 rfl (lv_at hl 1 rfl) ?_
          refine lx_iald (v := u.2.2 33 k) hx hb hE.1 hP 20 0 rfl rfl (by assumption) (by (rw [nI_clamp (by omega)]) <;> rfl) dX9_isWanted_31 ?_
          refine lv_iload_n hx hb dX9_isWanted_32 rfl (lv_at hl 3 rfl) ?_
          refine lv_icmp_ne (tgt := 40) hx hb dX9_isWanted_33 (by decide) (fun c3 => ?_) (fun c3 => ?_)
          · replace hf := hf.trans (if_neg c3)
            refine lv_iconst (v := 0) hx hb dX9_isWanted_40 (by decide) ?_
            refine lv_istore_n (lv' := [(2, .int 0), (3, .int (nI k)), (0, .ref (a 45)), (1, .int b)]) hx hb dX9_isWanted_41 rfl hl (by decide) rfl (fun ls hl => ?_)
            refine lv_iinc (v := nI (k + 1)) (lv' := [(3, .int (nI (k + 1))), (2, .int 0), (0, .ref (a 45)), (1, .int b)]) hx hb dX9_isWanted_42 hl (k := 1) rfl (by first | exact nI_add _ _ | rfl) (by decide) rfl (fun ls hl => ?_)
            refine lv_goto (tgt := 4) hx hb dX9_isWanted_45 (by decide) ?_
            exact ih_lp_isWanted _ _ _ ⟨0, (k + 1), (by omega), (by omega), (by first | exact Or.inl rfl | exact Or.inr rfl | assumption), hP, hD, hS, (lv_sub hl [1, 0, 2, 3] rfl), hf⟩
          · replace hf := hf.trans (if_pos c3)
            refine lv_iconst (v := 1) hx hb dX9_isWanted_36 (by decide) ?_
            refine lv_goto (tgt := 41) hx hb dX9_isWanted_37 (by decide) ?_
            refine lv_istore_n (lv' := [(2, .int 1), (3, .int (nI k)), (0, .ref (a 45)), (1, .int b)]) hx hb dX9_isWanted_41 rfl hl (by decide) rfl (fun ls hl => ?_)
            refine lv_iinc (v := nI (k + 1)) (lv' := [(3, .int (nI (k + 1))), (2, .int 1), (0, .ref (a 45)), (1, .int b)]) hx hb dX9_isWanted_42 hl (k := 1) rfl (by first | exact nI_add _ _ | rfl) (by decide) rfl (fun ls hl => ?_)
            refine lv_goto (tgt := 4) hx hb dX9_isWanted_45 (by decide) ?_
            exact ih_lp_isWanted _ _ _ ⟨1, (k + 1), (by omega), (by omega), (by first | exact Or.inl rfl | exact Or.inr rfl | assumption), hP, hD, hS, (lv_sub hl [1, 0, 2, 3] rfl), hf⟩
def f_taken (u : RS) : RS := (sg (sg (sg u 3 (u.1 2)) 2 0) 4 0)
theorem f_taken_s (u : RS) : f_taken u = (sg (sg (sg u 3 (u.1 2)) 2 0) 4 0) := rfl
theorem im_X9_taken_X9 : ∀ w ∈ wsX90, w ∈ wsX9_taken := fun _ h => List.mem_cons_of_mem _ (List.mem_append_right _ h)
set_option maxHeartbeats 400000 in
set_option maxRecDepth 100000 in
theorem m_taken (l : Launch) (D : va_G) (cI cZ cB cO cJ : ClassId) (a0 sz : Nat) (a : Nat → Nat)  (u : RS) : Met l yX9_taken wsX9_taken ({ frames := 0, cells := 0, slots := 0, locals := 0 }) (Pcs D cI cZ cB cO cJ a0 [.ref (a 45)] (WM cI cZ cB a u) sz) (va_Qv (fun (_ : Unit) => True) (fun (_ : Unit) t => va_P D vwCl (WM cI cZ cB a (f_taken u)) t.heap ∧ va_D (va_A (WM cI cZ cB a u) sz) (WM cI cZ cB a (f_taken u))) (va_A (WM cI cZ cB a u) sz)) 0 0 (va_A (WM cI cZ cB a u) sz) := by
  refine Met.ofW (cc := cX9_taken) (maxL := 1) (ret := none) (by decide) rfl ?_
  intro p e s m args below meth c s₁ B hml hv
  obtain ⟨rfl, hsz, hP, hE, hD0, hZ⟩ := hv
  have hx := B.exec
  have hb := B.bytes
  have hr := B.returns
  have hts := atoms_spec (ws := wsX9_taken) B.pre
  have hown : s.vm.findClass RX9 = some m.cls := findClass_of_methodNamed B.named
  have hlocks := B.notSynchronized
  subst hsz
  have hD := hD0.self (sz := s.heap.size)
  generalize hAe : va_A (WM cI cZ cB a u) s.heap.size = A at hD hZ ⊢
  have hA : ∀ q : Nat, s.heap.size ≤ q → A q := fun q h => by rw [← hAe]; exact Or.inr h
  clear hAe
  have hS : va_S A s.heap s.heap [] := va_S.rf
  have hP : va_P D vwCl (WM cI cZ cB a u) s.heap := hP
  have hl := lv_entry ([.ref (a 45)]) (n := 1) (Nat.le_of_ble_eq_true rfl)
  rw [lg_entry_eq]
  generalize (lg_sl ([.ref (a 45)]) ++ List.replicate (1 - (lg_sl ([.ref (a 45)])).length) Slot.unset).toArray = ls at hl ⊢
  have hl : lv_has ls 1 [(0, .ref (a 45))] := hl
  have hf := f_taken_s u
  refine lv_aload_n hx hb dX9_taken_0 rfl (lv_at hl 0 rfl) ?_
  refine lv_aload_n hx hb dX9_taken_1 rfl (lv_at hl 0 rfl) ?_
  refine va_get (D := D) (ci := 10) (v := .int (u.1 2)) (C := RX9) (T := TX9) (N := 45) hx hb hts im_X9_taken_X9 hown hE.1 hP 0 rfl rfl 2 (by decide) (hts (.fieldLink RX9 106 "RiverBridgesModel" "length" "I") (by decide +kernel)) (fun _ h9 => h9) rfl dX9_taken_2 ?_
  refine va_put (D := D) (ci := 10) (v := .int (u.1 2)) (ty := .int) (C := RX9) (T := TX9) (N := 45) hx hb hts im_X9_taken_X9 tyX9 tyX9_ok nmX9 hown hE.1 hP hD hS 0 rfl rfl 3 (by decide) (hts (.fieldLink RX9 113 "RiverBridgesModel" "size" "I") (by decide +kernel)) (fun _ h9 => h9) rfl (by decide +kernel) rfl rfl (Nat.le_of_ble_eq_true rfl) dX9_taken_5 (fun H locs hP hD hS => ?_)
  have hP := va_P_eq (WM_g3 cI cZ cB a u (u.1 2)) hP
  have hD := va_D_eq (WM_g3 cI cZ cB a u (u.1 2)) hD
  refine lv_aload_n hx hb dX9_taken_8 rfl (lv_at hl 0 rfl) ?_
  refine lv_iconst (v := 0) hx hb dX9_taken_9 (by decide) ?_
  refine va_put (D := D) (ci := 10) (v := .int 0) (ty := .int) (C := RX9) (T := TX9) (N := 45) hx hb hts im_X9_taken_X9 tyX9 tyX9_ok nmX9 hown hE.1 hP hD hS 0 rfl rfl 2 (by decide) (hts (.fieldLink RX9 106 "RiverBridgesModel" "length" "I") (by decide +kernel)) (fun _ h9 => h9) rfl (by decide +kernel) rfl rfl (Nat.le_of_ble_eq_true rfl) dX9_taken_10 (fun H locs hP hD hS => ?_)
  have hP := va_P_eq (WM_g2 cI cZ cB a (sg u 3 (u.1 2)) 0) hP
  have hD := va_D_eq (WM_g2 cI cZ cB a (sg u 3 (u.1 2)) 0) hD
  refine lv_aload_n hx hb dX9_taken_13 rfl (lv_at hl 0 rfl) ?_
  refine lv_iconst (v := 0) hx hb dX9_taken_14 (by decide) ?_
  refine va_put (D := D) (ci := 10) (v := .int 0) (ty := .int) (C := RX9) (T := TX9) (N := 45) hx hb hts im_X9_taken_X9 tyX9 tyX9_ok nmX9 hown hE.1 hP hD hS 0 rfl rfl 4 (by decide) (hts (.fieldLink RX9 116 "RiverBridgesModel" "p" "I") (by decide +kernel)) (fun _ h9 => h9) rfl (by decide +kernel) rfl rfl (Nat.le_of_ble_eq_true rfl) dX9_taken_15 (fun H locs hP hD hS => ?_)
  have hP := va_P_eq (WM_g4 cI cZ cB a (sg (sg u 3 (u.1 2)) 2 0) 0) hP
  have hD := va_D_eq (WM_g4 cI cZ cB a (sg (sg u 3 (u.1 2)) 2 0) 0) hD
  exact ss_vret () hx hb hr hlocks (by rw [hf]; exact hP) (by rw [hf]; exact hD) hS trivial (Nat.le_of_ble_eq_true rfl) (Nat.le_of_ble_eq_true rfl) dX9_taken_18
def f_throwsIf (u : RS) (is : Int32) : Int32 × RS := (if is = 0 then (is, (sg u 0 0)) else (is, (sg u 0 1)))
theorem f_throwsIf_s (u : RS) (is : Int32) : f_throwsIf u is = (if is = 0 then (is, (sg u 0 0)) else (is, (sg u 0 1))) := rfl
theorem im_X9_throwsIf_X9 : ∀ w ∈ wsX90, w ∈ wsX9_throwsIf := fun _ h => List.mem_cons_of_mem _ (List.mem_append_right _ h)
set_option maxHeartbeats 400000 in
set_option maxRecDepth 100000 in
theorem m_throwsIf (l : Launch) (D : va_G) (cI cZ cB cO cJ : ClassId) (a0 sz : Nat) (a : Nat → Nat)  (u : RS) (is : Int32) (hz : is = 0 ∨ is = 1) : Met l yX9_throwsIf wsX9_throwsIf ({ frames := 0, cells := 0, slots := 0, locals := 0 }) (Pcs D cI cZ cB cO cJ a0 [.ref (a 45), .int is] (WM cI cZ cB a u) sz) (va_Qi (fun (r : Int32) (_ : Unit) => r = (f_throwsIf u is).1) (fun (_ : Unit) t => va_P D vwCl (WM cI cZ cB a (f_throwsIf u is).2) t.heap ∧ va_D (va_A (WM cI cZ cB a u) sz) (WM cI cZ cB a (f_throwsIf u is).2)) (va_A (WM cI cZ cB a u) sz)) 0 0 (va_A (WM cI cZ cB a u) sz) := by
  refine Met.ofW (cc := cX9_throwsIf) (maxL := 2) (ret := (some .boolean)) (by decide) rfl ?_
  intro p e s m args below meth c s₁ B hml hv
  obtain ⟨rfl, hsz, hP, hE, hD0, hZ⟩ := hv
  have hx := B.exec
  have hb := B.bytes
  have hr := B.returns
  have hts := atoms_spec (ws := wsX9_throwsIf) B.pre
  have hown : s.vm.findClass RX9 = some m.cls := findClass_of_methodNamed B.named
  have hlocks := B.notSynchronized
  subst hsz
  have hD := hD0.self (sz := s.heap.size)
  generalize hAe : va_A (WM cI cZ cB a u) s.heap.size = A at hD hZ ⊢
  have hA : ∀ q : Nat, s.heap.size ≤ q → A q := fun q h => by rw [← hAe]; exact Or.inr h
  clear hAe
  have hS : va_S A s.heap s.heap [] := va_S.rf
  have hP : va_P D vwCl (WM cI cZ cB a u) s.heap := hP
  have hl := lv_entry ([.ref (a 45), .int is]) (n := 2) (Nat.le_of_ble_eq_true rfl)
  rw [lg_entry_eq]
  generalize (lg_sl ([.ref (a 45), .int is]) ++ List.replicate (2 - (lg_sl ([.ref (a 45), .int is])).length) Slot.unset).toArray = ls at hl ⊢
  have hl : lv_has ls 2 [(0, .ref (a 45)), (1, .int is)] := hl
  have hf := f_throwsIf_s u is
  refine lv_aload_n hx hb dX9_throwsIf_0 rfl (lv_at hl 0 rfl) ?_
  refine lv_iload_n hx hb dX9_throwsIf_1 rfl (lv_at hl 1 rfl) ?_
  refine lv_if_eq (tgt := 9) hx hb dX9_throwsIf_2 (by decide) (fun c1 => ?_) (fun c1 => ?_)
  · replace hf := hf.trans (if_pos c1)
    refine lv_iconst (v := 0) hx hb dX9_throwsIf_9 (by decide) ?_
    refine va_put (D := D) (ci := 10) (v := .int 0) (ty := .int) (C := RX9) (T := TX9) (N := 45) hx hb hts im_X9_throwsIf_X9 tyX9 tyX9_ok nmX9 hown hE.1 hP hD hS 0 rfl rfl 0 (by decide) (hts (.fieldLink RX9 103 "RiverBridgesModel" "thrown" "I") (by decide +kernel)) (fun _ h9 => h9) rfl (by decide +kernel) rfl rfl (Nat.le_of_ble_eq_true rfl) dX9_throwsIf_10 (fun H locs hP hD hS => ?_)
    have hP := va_P_eq (WM_g0 cI cZ cB a u 0) hP
    have hD := va_D_eq (WM_g0 cI cZ cB a u 0) hD
    refine lv_iload_n hx hb dX9_throwsIf_13 rfl (lv_at hl 1 rfl) ?_
    exact ss_zret () hx hb hr hlocks (nar01 hz) (by rw [hf]; exact hP) (by rw [hf]; exact hD) hS (by rw [hf]) (Nat.le_of_ble_eq_true rfl) (Nat.le_of_ble_eq_true rfl) dX9_throwsIf_14
  · replace hf := hf.trans (if_neg c1)
    refine lv_iconst (v := 1) hx hb dX9_throwsIf_5 (by decide) ?_
    refine lv_goto (tgt := 10) hx hb dX9_throwsIf_6 (by decide) ?_
    refine va_put (D := D) (ci := 10) (v := .int 1) (ty := .int) (C := RX9) (T := TX9) (N := 45) hx hb hts im_X9_throwsIf_X9 tyX9 tyX9_ok nmX9 hown hE.1 hP hD hS 0 rfl rfl 0 (by decide) (hts (.fieldLink RX9 103 "RiverBridgesModel" "thrown" "I") (by decide +kernel)) (fun _ h9 => h9) rfl (by decide +kernel) rfl rfl (Nat.le_of_ble_eq_true rfl) dX9_throwsIf_10 (fun H locs hP hD hS => ?_)
    have hP := va_P_eq (WM_g0 cI cZ cB a u 1) hP
    have hD := va_D_eq (WM_g0 cI cZ cB a u 1) hD
    refine lv_iload_n hx hb dX9_throwsIf_13 rfl (lv_at hl 1 rfl) ?_
    exact ss_zret () hx hb hr hlocks (nar01 hz) (by rw [hf]; exact hP) (by rw [hf]; exact hD) hS (by rw [hf]) (Nat.le_of_ble_eq_true rfl) (Nat.le_of_ble_eq_true rfl) dX9_throwsIf_14
def f_fault (u : RS) : Int32 × RS := (u.1 27, (sg u 0 0))
theorem f_fault_s (u : RS) : f_fault u = (u.1 27, (sg u 0 0)) := rfl
theorem im_X9_fault_X9 : ∀ w ∈ wsX90, w ∈ wsX9_fault := fun _ h => List.mem_cons_of_mem _ (List.mem_append_right _ h)
set_option maxHeartbeats 400000 in
set_option maxRecDepth 100000 in
theorem m_fault (l : Launch) (D : va_G) (cI cZ cB cO cJ : ClassId) (a0 sz : Nat) (a : Nat → Nat)  (u : RS) : Met l yX9_fault wsX9_fault ({ frames := 0, cells := 0, slots := 0, locals := 0 }) (Pcs D cI cZ cB cO cJ a0 [.ref (a 45)] (WM cI cZ cB a u) sz) (va_Qi (fun (r : Int32) (_ : Unit) => r = (f_fault u).1) (fun (_ : Unit) t => va_P D vwCl (WM cI cZ cB a (f_fault u).2) t.heap ∧ va_D (va_A (WM cI cZ cB a u) sz) (WM cI cZ cB a (f_fault u).2)) (va_A (WM cI cZ cB a u) sz)) 0 0 (va_A (WM cI cZ cB a u) sz) := by
  refine Met.ofW (cc := cX9_fault) (maxL := 1) (ret := (some .int)) (by decide) rfl ?_
  intro p e s m args below meth c s₁ B hml hv
  obtain ⟨rfl, hsz, hP, hE, hD0, hZ⟩ := hv
  have hx := B.exec
  have hb := B.bytes
  have hr := B.returns
  have hts := atoms_spec (ws := wsX9_fault) B.pre
  have hown : s.vm.findClass RX9 = some m.cls := findClass_of_methodNamed B.named
  have hlocks := B.notSynchronized
  subst hsz
  have hD := hD0.self (sz := s.heap.size)
  generalize hAe : va_A (WM cI cZ cB a u) s.heap.size = A at hD hZ ⊢
  have hA : ∀ q : Nat, s.heap.size ≤ q → A q := fun q h => by rw [← hAe]; exact Or.inr h
  clear hAe
  have hS : va_S A s.heap s.heap [] := va_S.rf
  have hP : va_P D vwCl (WM cI cZ cB a u) s.heap := hP
  have hl := lv_entry ([.ref (a 45)]) (n := 1) (Nat.le_of_ble_eq_true rfl)
  rw [lg_entry_eq]
  generalize (lg_sl ([.ref (a 45)]) ++ List.replicate (1 - (lg_sl ([.ref (a 45)])).length) Slot.unset).toArray = ls at hl ⊢
  have hl : lv_has ls 1 [(0, .ref (a 45))] := hl
  have hf := f_fault_s u
  refine lv_aload_n hx hb dX9_fault_0 rfl (lv_at hl 0 rfl) ?_
  refine lv_iconst (v := 0) hx hb dX9_fault_1 (by decide) ?_
  refine va_put (D := D) (ci := 10) (v := .int 0) (ty := .int) (C := RX9) (T := TX9) (N := 45) hx hb hts im_X9_fault_X9 tyX9 tyX9_ok nmX9 hown hE.1 hP hD hS 0 rfl rfl 0 (by decide) (hts (.fieldLink RX9 103 "RiverBridgesModel" "thrown" "I") (by decide +kernel)) (fun _ h9 => h9) rfl (by decide +kernel) rfl rfl (Nat.le_of_ble_eq_true rfl) dX9_fault_2 (fun H locs hP hD hS => ?_)
  have hP := va_P_eq (WM_g0 cI cZ cB a u 0) hP
  have hD := va_D_eq (WM_g0 cI cZ cB a u 0) hD
  refine lv_aload_n hx hb dX9_fault_5 rfl (lv_at hl 0 rfl) ?_
  refine va_get (D := D) (ci := 10) (v := .int (u.1 27)) (C := RX9) (T := TX9) (N := 45) hx hb hts im_X9_fault_X9 hown hE.1 hP 0 rfl rfl 27 (by decide) (hts (.fieldLink RX9 160 "RiverBridgesModel" "fault" "I") (by decide +kernel)) (fun _ h9 => h9) rfl dX9_fault_6 ?_
  exact ss_iret () hx hb hr hlocks (by rw [hf]; exact hP) (by rw [hf]; exact hD) hS (by rw [hf]) (Nat.le_of_ble_eq_true rfl) (Nat.le_of_ble_eq_true rfl) dX9_fault_9
def f_end (u : RS) (cut : Int32) : Int32 × RS := (if cut < 0 then (0, (sg u 0 0)) else (if cut ≤ u.1 2 then (1, (sg (sg u 0 0) 2 cut)) else (0, (sg u 0 0))))
theorem f_end_s (u : RS) (cut : Int32) : f_end u cut = (if cut < 0 then (0, (sg u 0 0)) else (if cut ≤ u.1 2 then (1, (sg (sg u 0 0) 2 cut)) else (0, (sg u 0 0)))) := rfl
theorem im_X9_end_X9 : ∀ w ∈ wsX90, w ∈ wsX9_end := fun _ h => List.mem_cons_of_mem _ (List.mem_append_right _ h)
set_option maxHeartbeats 400000 in
set_option maxRecDepth 100000 in
theorem m_end (l : Launch) (D : va_G) (cI cZ cB cO cJ : ClassId) (a0 sz : Nat) (a : Nat → Nat)  (u : RS) (cut : Int32) : Met l yX9_end wsX9_end ({ frames := 0, cells := 0, slots := 0, locals := 0 }) (Pcs D cI cZ cB cO cJ a0 [.ref (a 45), .int cut] (WM cI cZ cB a u) sz) (va_Qi (fun (r : Int32) (_ : Unit) => r = (f_end u cut).1) (fun (_ : Unit) t => va_P D vwCl (WM cI cZ cB a (f_end u cut).2) t.heap ∧ va_D (va_A (WM cI cZ cB a u) sz) (WM cI cZ cB a (f_end u cut).2)) (va_A (WM cI cZ cB a u) sz)) 0 0 (va_A (WM cI cZ cB a u) sz) := by
  refine Met.ofW (cc := cX9_end) (maxL := 2) (ret := (some .boolean)) (by decide) rfl ?_
  intro p e s m args below meth c s₁ B hml hv
  obtain ⟨rfl, hsz, hP, hE, hD0, hZ⟩ := hv
  have hx := B.exec
  have hb := B.bytes
  have hr := B.returns
  have hts := atoms_spec (ws := wsX9_end) B.pre
  have hown : s.vm.findClass RX9 = some m.cls := findClass_of_methodNamed B.named
  have hlocks := B.notSynchronized
  subst hsz
  have hD := hD0.self (sz := s.heap.size)
  generalize hAe : va_A (WM cI cZ cB a u) s.heap.size = A at hD hZ ⊢
  have hA : ∀ q : Nat, s.heap.size ≤ q → A q := fun q h => by rw [← hAe]; exact Or.inr h
  clear hAe
  have hS : va_S A s.heap s.heap [] := va_S.rf
  have hP : va_P D vwCl (WM cI cZ cB a u) s.heap := hP
  have hl := lv_entry ([.ref (a 45), .int cut]) (n := 2) (Nat.le_of_ble_eq_true rfl)
  rw [lg_entry_eq]
  generalize (lg_sl ([.ref (a 45), .int cut]) ++ List.replicate (2 - (lg_sl ([.ref (a 45), .int cut])).length) Slot.unset).toArray = ls at hl ⊢
  have hl : lv_has ls 2 [(0, .ref (a 45)), (1, .int cut)] := hl
  have hf := f_end_s u cut
  refine lv_aload_n hx hb dX9_end_0 rfl (lv_at hl 0 rfl) ?_
  refine lv_iconst (v := 0) hx hb dX9_end_1 (by decide) ?_
  refine va_put (D := D) (ci := 10) (v := .int 0) (ty := .int) (C := RX9) (T := TX9) (N := 45) hx hb hts im_X9_end_X9 tyX9 tyX9_ok nmX9 hown hE.1 hP hD hS 0 rfl rfl 0 (by decide) (hts (.fieldLink RX9 103 "RiverBridgesModel" "thrown" "I") (by decide +kernel)) (fun _ h9 => h9) rfl (by decide +kernel) rfl rfl (Nat.le_of_ble_eq_true rfl) dX9_end_2 (fun H locs hP hD hS => ?_)
  have hP := va_P_eq (WM_g0 cI cZ cB a u 0) hP
  have hD := va_D_eq (WM_g0 cI cZ cB a u 0) hD
  refine lv_iload_n hx hb dX9_end_5 rfl (lv_at hl 1 rfl) ?_
  refine lv_if_lt (tgt := 17) hx hb dX9_end_6 (by decide) (fun c1 => ?_) (fun c1 => ?_)
  · replace hf := hf.trans (if_pos c1)
    refine lv_iconst (v := 0) hx hb dX9_end_17 (by decide) ?_
    exact ss_zret () hx hb hr hlocks (by decide) (by rw [hf]; exact hP) (by rw [hf]; exact hD) hS (by rw [hf]) (Nat.le_of_ble_eq_true rfl) (Nat.le_of_ble_eq_true rfl) dX9_end_18
  · replace hf := hf.trans (if_neg c1)
    refine lv_iload_n hx hb dX9_end_9 rfl (lv_at hl 1 rfl) ?_
    refine lv_aload_n hx hb dX9_end_10 rfl (lv_at hl 0 rfl) ?_
    refine va_get (D := D) (ci := 10) (v := .int (u.1 2)) (C := RX9) (T := TX9) (N := 45) hx hb hts im_X9_end_X9 hown hE.1 hP 0 rfl rfl 2 (by decide) (hts (.fieldLink RX9 106 "RiverBridgesModel" "length" "I") (by decide +kernel)) (fun _ h9 => h9) rfl dX9_end_11 ?_
    refine lv_icmp_le (tgt := 19) hx hb dX9_end_14 (by decide) (fun c2 => ?_) (fun c2 => ?_)
    · replace hf := hf.trans (if_pos c2)
      refine lv_aload_n hx hb dX9_end_19 rfl (lv_at hl 0 rfl) ?_
      refine lv_iload_n hx hb dX9_end_20 rfl (lv_at hl 1 rfl) ?_
      refine va_put (D := D) (ci := 10) (v := .int cut) (ty := .int) (C := RX9) (T := TX9) (N := 45) hx hb hts im_X9_end_X9 tyX9 tyX9_ok nmX9 hown hE.1 hP hD hS 0 rfl rfl 2 (by decide) (hts (.fieldLink RX9 106 "RiverBridgesModel" "length" "I") (by decide +kernel)) (fun _ h9 => h9) rfl (by decide +kernel) rfl rfl (Nat.le_of_ble_eq_true rfl) dX9_end_21 (fun H locs hP hD hS => ?_)
      have hP := va_P_eq (WM_g2 cI cZ cB a (sg u 0 0) cut) hP
      have hD := va_D_eq (WM_g2 cI cZ cB a (sg u 0 0) cut) hD
      refine lv_iconst (v := 1) hx hb dX9_end_24 (by decide) ?_
      exact ss_zret () hx hb hr hlocks (by decide) (by rw [hf]; exact hP) (by rw [hf]; exact hD) hS (by rw [hf]) (Nat.le_of_ble_eq_true rfl) (Nat.le_of_ble_eq_true rfl) dX9_end_25
    · replace hf := hf.trans (if_neg c2)
      refine lv_iconst (v := 0) hx hb dX9_end_17 (by decide) ?_
      exact ss_zret () hx hb hr hlocks (by decide) (by rw [hf]; exact hP) (by rw [hf]; exact hD) hS (by rw [hf]) (Nat.le_of_ble_eq_true rfl) (Nat.le_of_ble_eq_true rfl) dX9_end_18
def f_legs (u : RS) (mins : Int32) : Int32 × RS := (if u.1 18 = 0 then (if f_isIn (sg u 0 0) mins 1 30 = 0 then (0, (sg u 0 0)) else (1, (sg (sg u 0 0) 19 mins))) else (0, (sg u 0 0)))
theorem f_legs_s (u : RS) (mins : Int32) : f_legs u mins = (if u.1 18 = 0 then (if f_isIn (sg u 0 0) mins 1 30 = 0 then (0, (sg u 0 0)) else (1, (sg (sg u 0 0) 19 mins))) else (0, (sg u 0 0))) := rfl
theorem im_X9_legs_X9 : ∀ w ∈ wsX90, w ∈ wsX9_legs := fun _ h => List.mem_cons_of_mem _ (List.mem_append_right _ h)
set_option maxHeartbeats 400000 in
set_option maxRecDepth 100000 in
theorem m_legs (l : Launch) (D : va_G) (cI cZ cB cO cJ : ClassId) (a0 sz : Nat) (a : Nat → Nat)  (u : RS) (mins : Int32) : Met l yX9_legs wsX9_legs ({ frames := 1, cells := 0, slots := 0, locals := 22 }) (Pcs D cI cZ cB cO cJ a0 [.ref (a 45), .int mins] (WM cI cZ cB a u) sz) (va_Qi (fun (r : Int32) (_ : Unit) => r = (f_legs u mins).1) (fun (_ : Unit) t => va_P D vwCl (WM cI cZ cB a (f_legs u mins).2) t.heap ∧ va_D (va_A (WM cI cZ cB a u) sz) (WM cI cZ cB a (f_legs u mins).2)) (va_A (WM cI cZ cB a u) sz)) 0 0 (va_A (WM cI cZ cB a u) sz) := by
  refine Met.ofW (cc := cX9_legs) (maxL := 2) (ret := (some .boolean)) (by decide) rfl ?_
  intro p e s m args below meth c s₁ B hml hv
  obtain ⟨rfl, hsz, hP, hE, hD0, hZ⟩ := hv
  have hx := B.exec
  have hb := B.bytes
  have hr := B.returns
  have hts := atoms_spec (ws := wsX9_legs) B.pre
  have hown : s.vm.findClass RX9 = some m.cls := findClass_of_methodNamed B.named
  have hlocks := B.notSynchronized
  subst hsz
  have hD := hD0.self (sz := s.heap.size)
  generalize hAe : va_A (WM cI cZ cB a u) s.heap.size = A at hD hZ ⊢
  have hA : ∀ q : Nat, s.heap.size ≤ q → A q := fun q h => by rw [← hAe]; exact Or.inr h
  clear hAe
  have hS : va_S A s.heap s.heap [] := va_S.rf
  have hP : va_P D vwCl (WM cI cZ cB a u) s.heap := hP
  have hl := lv_entry ([.ref (a 45), .int mins]) (n := 2) (Nat.le_of_ble_eq_true rfl)
  rw [lg_entry_eq]
  generalize (lg_sl ([.ref (a 45), .int mins]) ++ List.replicate (2 - (lg_sl ([.ref (a 45), .int mins])).length) Slot.unset).toArray = ls at hl ⊢
  have hl : lv_has ls 2 [(0, .ref (a 45)), (1, .int mins)] := hl
  have hf := f_legs_s u mins
  refine lv_aload_n hx hb dX9_legs_0 rfl (lv_at hl 0 rfl) ?_
  refine lv_iconst (v := 0) hx hb dX9_legs_1 (by decide) ?_
  refine va_put (D := D) (ci := 10) (v := .int 0) (ty := .int) (C := RX9) (T := TX9) (N := 45) hx hb hts im_X9_legs_X9 tyX9 tyX9_ok nmX9 hown hE.1 hP hD hS 0 rfl rfl 0 (by decide) (hts (.fieldLink RX9 103 "RiverBridgesModel" "thrown" "I") (by decide +kernel)) (fun _ h9 => h9) rfl (by decide +kernel) rfl rfl (Nat.le_of_ble_eq_true rfl) dX9_legs_2 (fun H locs hP hD hS => ?_)
  have hP := va_P_eq (WM_g0 cI cZ cB a u 0) hP
  have hD := va_D_eq (WM_g0 cI cZ cB a u 0) hD
  refine lv_aload_n hx hb dX9_legs_5 rfl (lv_at hl 0 rfl) ?_
  refine va_get (D := D) (ci := 10) (v := .int (u.1 18)) (C := RX9) (T := TX9) (N := 45) hx hb hts im_X9_legs_X9 hown hE.1 hP 0 rfl rfl 18 (by decide) (hts (.fieldLink RX9 122 "RiverBridgesModel" "minute" "I") (by decide +kernel)) (fun _ h9 => h9) rfl dX9_legs_6 ?_
  refine lv_if_ne (tgt := 22) hx hb dX9_legs_9 (by decide) (fun c1 => ?_) (fun c1 => ?_)
  · replace hf := hf.trans (if_neg c1)
    refine lv_iconst (v := 0) hx hb dX9_legs_22 (by decide) ?_
    exact ss_zret () hx hb hr hlocks (by decide) (by rw [hf]; exact hP) (by rw [hf]; exact hD) hS (by rw [hf]) (Nat.le_of_ble_eq_true rfl) (Nat.le_of_ble_eq_true rfl) dX9_legs_23
  · replace hf := hf.trans (if_pos c1)
    refine lv_iload_n hx hb dX9_legs_12 rfl (lv_at hl 1 rfl) ?_
    refine lv_iconst (v := 1) hx hb dX9_legs_13 (by decide) ?_
    refine lv_bipush (v := 30) hx hb dX9_legs_14 (by decide) ?_
    refine sf_calli (va_runS (As := [.int mins, .int 1, .int 30]) (rest := []) ⟨hx, hb, hml, hown, hts⟩ (m_isIn l D cI cZ cB cO cJ a0 H.size a  (sg u 0 0) mins 1 30 ) (cwS 3 hts gX9_legs_X9_isIn rfl rfl rfl (by decide +kernel) ⟨Nat.le_of_ble_eq_true rfl, Nat.le_of_ble_eq_true rfl⟩) (preS_full hE hZ hA hS hP hD) rfl rfl hl.1 rfl (lv_room (Nat.le_of_ble_eq_true rfl)) dX9_legs_16 ⟨Nat.le_of_ble_eq_true rfl, Nat.le_of_ble_eq_true rfl⟩) hP hD hS hA (fun r9 u9 H locs hw hP hD hS => ?_)
    subst hw
    have hP : va_P D vwCl (WM cI cZ cB a (sg u 0 0)) H := hP
    have hD : va_D A (WM cI cZ cB a (sg u 0 0)) := hD
    refine lv_if_ne (tgt := 24) hx hb dX9_legs_19 (by decide) (fun c2 => ?_) (fun c2 => ?_)
    · replace hf := hf.trans (if_neg c2)
      refine lv_aload_n hx hb dX9_legs_24 rfl (lv_at hl 0 rfl) ?_
      refine lv_iload_n hx hb dX9_legs_25 rfl (lv_at hl 1 rfl) ?_
      refine va_put (D := D) (ci := 10) (v := .int mins) (ty := .int) (C := RX9) (T := TX9) (N := 45) hx hb hts im_X9_legs_X9 tyX9 tyX9_ok nmX9 hown hE.1 hP hD hS 0 rfl rfl 19 (by decide) (hts (.fieldLink RX9 50 "RiverBridgesModel" "legs" "I") (by decide +kernel)) (fun _ h9 => h9) rfl (by decide +kernel) rfl rfl (Nat.le_of_ble_eq_true rfl) dX9_legs_26 (fun H locs hP hD hS => ?_)
      have hP := va_P_eq (WM_g19 cI cZ cB a (sg u 0 0) mins) hP
      have hD := va_D_eq (WM_g19 cI cZ cB a (sg u 0 0) mins) hD
      refine lv_iconst (v := 1) hx hb dX9_legs_29 (by decide) ?_
      exact ss_zret () hx hb hr hlocks (by decide) (by rw [hf]; exact hP) (by rw [hf]; exact hD) hS (by rw [hf]) (Nat.le_of_ble_eq_true rfl) (Nat.le_of_ble_eq_true rfl) dX9_legs_30
    · replace hf := hf.trans (if_pos c2)
      refine lv_iconst (v := 0) hx hb dX9_legs_22 (by decide) ?_
      exact ss_zret () hx hb hr hlocks (by decide) (by rw [hf]; exact hP) (by rw [hf]; exact hD) hS (by rw [hf]) (Nat.le_of_ble_eq_true rfl) (Nat.le_of_ble_eq_true rfl) dX9_legs_23
def f_level (u : RS) (tm : Int32) : Int32 × RS := (if f_isIn (sg u 0 0) tm 0 1440 = 0 then (-1, (sg u 0 0)) else (f_levelAt (sg u 0 0) tm, (sg u 0 0)))
theorem f_level_s (u : RS) (tm : Int32) : f_level u tm = (if f_isIn (sg u 0 0) tm 0 1440 = 0 then (-1, (sg u 0 0)) else (f_levelAt (sg u 0 0) tm, (sg u 0 0))) := rfl
theorem im_X9_level_X9 : ∀ w ∈ wsX90, w ∈ wsX9_level := fun _ h => List.mem_cons_of_mem _ (List.mem_append_right _ h)
set_option maxHeartbeats 400000 in
set_option maxRecDepth 100000 in
theorem m_level (l : Launch) (D : va_G) (cI cZ cB cO cJ : ClassId) (a0 sz : Nat) (a : Nat → Nat)  (u : RS) (tm : Int32) : Met l yX9_level wsX9_level ({ frames := 1, cells := 0, slots := 0, locals := 22 }) (Pcs D cI cZ cB cO cJ a0 [.ref (a 45), .int tm] (WM cI cZ cB a u) sz) (va_Qi (fun (r : Int32) (_ : Unit) => r = (f_level u tm).1) (fun (_ : Unit) t => va_P D vwCl (WM cI cZ cB a (f_level u tm).2) t.heap ∧ va_D (va_A (WM cI cZ cB a u) sz) (WM cI cZ cB a (f_level u tm).2)) (va_A (WM cI cZ cB a u) sz)) 0 0 (va_A (WM cI cZ cB a u) sz) := by
  refine Met.ofW (cc := cX9_level) (maxL := 2) (ret := (some .int)) (by decide) rfl ?_
  intro p e s m args below meth c s₁ B hml hv
  obtain ⟨rfl, hsz, hP, hE, hD0, hZ⟩ := hv
  have hx := B.exec
  have hb := B.bytes
  have hr := B.returns
  have hts := atoms_spec (ws := wsX9_level) B.pre
  have hown : s.vm.findClass RX9 = some m.cls := findClass_of_methodNamed B.named
  have hlocks := B.notSynchronized
  subst hsz
  have hD := hD0.self (sz := s.heap.size)
  generalize hAe : va_A (WM cI cZ cB a u) s.heap.size = A at hD hZ ⊢
  have hA : ∀ q : Nat, s.heap.size ≤ q → A q := fun q h => by rw [← hAe]; exact Or.inr h
  clear hAe
  have hS : va_S A s.heap s.heap [] := va_S.rf
  have hP : va_P D vwCl (WM cI cZ cB a u) s.heap := hP
  have hl := lv_entry ([.ref (a 45), .int tm]) (n := 2) (Nat.le_of_ble_eq_true rfl)
  rw [lg_entry_eq]
  generalize (lg_sl ([.ref (a 45), .int tm]) ++ List.replicate (2 - (lg_sl ([.ref (a 45), .int tm])).length) Slot.unset).toArray = ls at hl ⊢
  have hl : lv_has ls 2 [(0, .ref (a 45)), (1, .int tm)] := hl
  have hf := f_level_s u tm
  refine lv_aload_n hx hb dX9_level_0 rfl (lv_at hl 0 rfl) ?_
  refine lv_iconst (v := 0) hx hb dX9_level_1 (by decide) ?_
  refine va_put (D := D) (ci := 10) (v := .int 0) (ty := .int) (C := RX9) (T := TX9) (N := 45) hx hb hts im_X9_level_X9 tyX9 tyX9_ok nmX9 hown hE.1 hP hD hS 0 rfl rfl 0 (by decide) (hts (.fieldLink RX9 103 "RiverBridgesModel" "thrown" "I") (by decide +kernel)) (fun _ h9 => h9) rfl (by decide +kernel) rfl rfl (Nat.le_of_ble_eq_true rfl) dX9_level_2 (fun H locs hP hD hS => ?_)
  have hP := va_P_eq (WM_g0 cI cZ cB a u 0) hP
  have hD := va_D_eq (WM_g0 cI cZ cB a u 0) hD
  refine lv_iload_n hx hb dX9_level_5 rfl (lv_at hl 1 rfl) ?_
  refine lv_iconst (v := 0) hx hb dX9_level_6 (by decide) ?_
  refine lv_sipush (v := 1440) hx hb dX9_level_7 (by decide) ?_
  refine sf_calli (va_runS (As := [.int tm, .int 0, .int 1440]) (rest := []) ⟨hx, hb, hml, hown, hts⟩ (m_isIn l D cI cZ cB cO cJ a0 H.size a  (sg u 0 0) tm 0 1440 ) (cwS 3 hts gX9_level_X9_isIn rfl rfl rfl (by decide +kernel) ⟨Nat.le_of_ble_eq_true rfl, Nat.le_of_ble_eq_true rfl⟩) (preS_full hE hZ hA hS hP hD) rfl rfl hl.1 rfl (lv_room (Nat.le_of_ble_eq_true rfl)) dX9_level_10 ⟨Nat.le_of_ble_eq_true rfl, Nat.le_of_ble_eq_true rfl⟩) hP hD hS hA (fun r9 u9 H locs hw hP hD hS => ?_)
  subst hw
  have hP : va_P D vwCl (WM cI cZ cB a (sg u 0 0)) H := hP
  have hD : va_D A (WM cI cZ cB a (sg u 0 0)) := hD
  refine lv_if_eq (tgt := 24) hx hb dX9_level_13 (by decide) (fun cin => ?_) (fun cin => ?_)
  · replace hf := hf.trans (if_pos cin)
    refine lv_iconst (v := -1) hx hb dX9_level_24 (by decide) ?_
    exact ss_iret () hx hb hr hlocks (by rw [hf]; exact hP) (by rw [hf]; exact hD) hS (by rw [hf]) (Nat.le_of_ble_eq_true rfl) (Nat.le_of_ble_eq_true rfl) dX9_level_25
  · replace hf := hf.trans (if_neg cin)
    refine lv_aload_n hx hb dX9_level_16 rfl (lv_at hl 0 rfl) ?_
    refine lv_iload_n hx hb dX9_level_17 rfl (lv_at hl 1 rfl) ?_
    refine sf_calli (va_runV (As := [.int tm]) (rest := []) ⟨hx, hb, hml, hown, hts⟩ (m_levelAt l D cI cZ cB cO cJ a0 H.size a  (sg u 0 0) tm (isIn_ix (n := 1440) (by decide) cin)) (cwV 1 hts gX9_level_X9_levelAt rfl rfl rfl (by decide +kernel) ⟨Nat.le_of_ble_eq_true rfl, Nat.le_of_ble_eq_true rfl⟩) (preV_full hE hZ hA hS hP hD (va_recv hE.1 hP (ci := 10) (q0 := 0) rfl rfl)) rfl rfl hl.1 rfl (lv_room (Nat.le_of_ble_eq_true rfl)) dX9_level_18 ⟨Nat.le_of_ble_eq_true rfl, Nat.le_of_ble_eq_true rfl⟩) hP hD hS hA (fun r9 u9 H locs hw hP hD hS => ?_)
    subst hw
    have hP : va_P D vwCl (WM cI cZ cB a (sg u 0 0)) H := hP
    have hD : va_D A (WM cI cZ cB a (sg u 0 0)) := hD
    refine lv_goto (tgt := 25) hx hb dX9_level_21 (by decide) ?_
    exact ss_iret () hx hb hr hlocks (by rw [hf]; exact hP) (by rw [hf]; exact hD) hS (by rw [hf]) (Nat.le_of_ble_eq_true rfl) (Nat.le_of_ble_eq_true rfl) dX9_level_25
def f_goThrough (u : RS) (sh : Int32) : RS := (if u.2.2 39 sh.toNatClampNeg = 0 then (if u.2.2 33 sh.toNatClampNeg = f_first (sa u 38 (((8 * sh) + (u.2.2 33 sh.toNatClampNeg)).toNatClampNeg) (u.1 18)) 1 then (sa (sa (sa u 38 (((8 * sh) + (u.2.2 33 sh.toNatClampNeg)).toNatClampNeg) (u.1 18)) 32 sh.toNatClampNeg 3) 37 sh.toNatClampNeg (u.1 18)) else (sa (sa (sa (sa u 38 (((8 * sh) + (u.2.2 33 sh.toNatClampNeg)).toNatClampNeg) (u.1 18)) 32 sh.toNatClampNeg 2) 33 sh.toNatClampNeg ((u.2.2 33 sh.toNatClampNeg) - 1)) 34 sh.toNatClampNeg ((u.1 18) + (u.2.2 8 (((u.2.2 33 sh.toNatClampNeg) - 1).toNatClampNeg))))) else (if u.2.2 33 sh.toNatClampNeg = f_first (sa u 38 (((8 * sh) + (u.2.2 33 sh.toNatClampNeg)).toNatClampNeg) (u.1 18)) 0 then (sa (sa (sa u 38 (((8 * sh) + (u.2.2 33 sh.toNatClampNeg)).toNatClampNeg) (u.1 18)) 32 sh.toNatClampNeg 3) 37 sh.toNatClampNeg (u.1 18)) else (sa (sa (sa (sa u 38 (((8 * sh) + (u.2.2 33 sh.toNatClampNeg)).toNatClampNeg) (u.1 18)) 32 sh.toNatClampNeg 2) 33 sh.toNatClampNeg ((u.2.2 33 sh.toNatClampNeg) + 1)) 34 sh.toNatClampNeg ((u.1 18) + (u.2.2 8 ((u.2.2 33 sh.toNatClampNeg).toNatClampNeg))))))
theorem f_goThrough_s (u : RS) (sh : Int32) : f_goThrough u sh = (if u.2.2 39 sh.toNatClampNeg = 0 then (if u.2.2 33 sh.toNatClampNeg = f_first (sa u 38 (((8 * sh) + (u.2.2 33 sh.toNatClampNeg)).toNatClampNeg) (u.1 18)) 1 then (sa (sa (sa u 38 (((8 * sh) + (u.2.2 33 sh.toNatClampNeg)).toNatClampNeg) (u.1 18)) 32 sh.toNatClampNeg 3) 37 sh.toNatClampNeg (u.1 18)) else (sa (sa (sa (sa u 38 (((8 * sh) + (u.2.2 33 sh.toNatClampNeg)).toNatClampNeg) (u.1 18)) 32 sh.toNatClampNeg 2) 33 sh.toNatClampNeg ((u.2.2 33 sh.toNatClampNeg) - 1)) 34 sh.toNatClampNeg ((u.1 18) + (u.2.2 8 (((u.2.2 33 sh.toNatClampNeg) - 1).toNatClampNeg))))) else (if u.2.2 33 sh.toNatClampNeg = f_first (sa u 38 (((8 * sh) + (u.2.2 33 sh.toNatClampNeg)).toNatClampNeg) (u.1 18)) 0 then (sa (sa (sa u 38 (((8 * sh) + (u.2.2 33 sh.toNatClampNeg)).toNatClampNeg) (u.1 18)) 32 sh.toNatClampNeg 3) 37 sh.toNatClampNeg (u.1 18)) else (sa (sa (sa (sa u 38 (((8 * sh) + (u.2.2 33 sh.toNatClampNeg)).toNatClampNeg) (u.1 18)) 32 sh.toNatClampNeg 2) 33 sh.toNatClampNeg ((u.2.2 33 sh.toNatClampNeg) + 1)) 34 sh.toNatClampNeg ((u.1 18) + (u.2.2 8 ((u.2.2 33 sh.toNatClampNeg).toNatClampNeg)))))) := rfl
theorem im_X9_goThrough_X9 : ∀ w ∈ wsX90, w ∈ wsX9_goThrough := fun _ h => List.mem_cons_of_mem _ (List.mem_append_right _ h)
set_option maxHeartbeats 400000 in
set_option maxRecDepth 100000 in
theorem m_goThrough (l : Launch) (D : va_G) (cI cZ cB cO cJ : ClassId) (a0 sz : Nat) (a : Nat → Nat) (nB nS nK mi ln : Nat) (u : RS) (sh : Int32) (hI : MI nB nS nK mi ln u) (hs : ixN sh nS) (hwh : ixN (u.2.2 33 sh.toNatClampNeg) nB) : Met l yX9_goThrough wsX9_goThrough ({ frames := 1, cells := 0, slots := 0, locals := 21 }) (Pcs D cI cZ cB cO cJ a0 [.ref (a 45), .int sh] (WM cI cZ cB a u) sz) (va_Qv (fun (_ : Unit) => True) (fun (_ : Unit) t => va_P D vwCl (WM cI cZ cB a (f_goThrough u sh)) t.heap ∧ va_D (va_A (WM cI cZ cB a u) sz) (WM cI cZ cB a (f_goThrough u sh))) (va_A (WM cI cZ cB a u) sz)) 0 0 (va_A (WM cI cZ cB a u) sz) := by
  refine Met.ofW (cc := cX9_goThrough) (maxL := 3) (ret := none) (by decide) rfl ?_
  intro p e s m args below meth c s₁ B hml hv
  obtain ⟨rfl, hsz, hP, hE, hD0, hZ⟩ := hv
  have hx := B.exec
  have hb := B.bytes
  have hr := B.returns
  have hts := atoms_spec (ws := wsX9_goThrough) B.pre
  have hown : s.vm.findClass RX9 = some m.cls := findClass_of_methodNamed B.named
  have hlocks := B.notSynchronized
  subst hsz
  have hD := hD0.self (sz := s.heap.size)
  generalize hAe : va_A (WM cI cZ cB a u) s.heap.size = A at hD hZ ⊢
  have hA : ∀ q : Nat, s.heap.size ≤ q → A q := fun q h => by rw [← hAe]; exact Or.inr h
  clear hAe
  have hS : va_S A s.heap s.heap [] := va_S.rf
  have hP : va_P D vwCl (WM cI cZ cB a u) s.heap := hP
  have hl := lv_entry ([.ref (a 45), .int sh]) (n := 3) (Nat.le_of_ble_eq_true rfl)
  rw [lg_entry_eq]
  generalize (lg_sl ([.ref (a 45), .int sh]) ++ List.replicate (3 - (lg_sl ([.ref (a 45), .int sh])).length) Slot.unset).toArray = ls at hl ⊢
  have hl : lv_has ls 3 [(0, .ref (a 45)), (1, .int sh)] := hl
  have hf := f_goThrough_s u sh
  refine lv_aload_n hx hb dX9_goThrough_0 rfl (lv_at hl 0 rfl) ?_
  refine va_get (D := D) (ci := 10) (v := .ref (a 33)) (C := RX9) (T := TX9) (N := 45) hx hb hts im_X9_goThrough_X9 hown hE.1 hP 0 rfl rfl 33 (by decide) (hts (.fieldLink RX9 73 "RiverBridgesModel" "where" "[I") (by decide +kernel)) (fun _ h9 => h9) rfl dX9_goThrough_1 ?_
  refine lv_iload_n hx hb dX9_goThrough_4 rfl (lv_at hl 1 rfl) ?_
  have i1 := hs.inn (N := 40) (by have := hI.nS.2; omega) (by omega)
  refine lx_iald (v := u.2.2 33 sh.toNatClampNeg) hx hb hE.1 hP 20 0 rfl rfl (by assumption) (rfl) dX9_goThrough_5 ?_
  refine lv_istore_n (lv' := [(2, .int (u.2.2 33 sh.toNatClampNeg)), (0, .ref (a 45)), (1, .int sh)]) hx hb dX9_goThrough_6 rfl hl (by decide) rfl (fun ls hl => ?_)
  refine lv_aload_n hx hb dX9_goThrough_7 rfl (lv_at hl 1 rfl) ?_
  refine va_get (D := D) (ci := 10) (v := .ref (a 38)) (C := RX9) (T := TX9) (N := 45) hx hb hts im_X9_goThrough_X9 hown hE.1 hP 0 rfl rfl 38 (by decide) (hts (.fieldLink RX9 88 "RiverBridgesModel" "through" "[I") (by decide +kernel)) (fun _ h9 => h9) rfl dX9_goThrough_8 ?_
  refine lv_bipush (v := 8) hx hb dX9_goThrough_11 (by decide) ?_
  refine lv_iload_n hx hb dX9_goThrough_13 rfl (lv_at hl 2 rfl) ?_
  refine lx_imul (v := 8 * sh) hx hb (rfl) dX9_goThrough_14 ?_
  refine lv_iload_n hx hb dX9_goThrough_15 rfl (lv_at hl 0 rfl) ?_
  refine lx_iadd (v := (8 * sh) + (u.2.2 33 sh.toNatClampNeg)) hx hb (rfl) dX9_goThrough_16 ?_
  refine lv_aload_n hx hb dX9_goThrough_17 rfl (lv_at hl 1 rfl) ?_
  refine va_get (D := D) (ci := 10) (v := .int (u.1 18)) (C := RX9) (T := TX9) (N := 45) hx hb hts im_X9_goThrough_X9 hown hE.1 hP 0 rfl rfl 18 (by decide) (hts (.fieldLink RX9 122 "RiverBridgesModel" "minute" "I") (by decide +kernel)) (fun _ h9 => h9) rfl dX9_goThrough_18 ?_
  have i3 := ix_mul8 hs hI.nS.2 (hwh.mono hI.nB.2)
  refine lx_iast (g := upd (u.2.2 38) (((8 * sh) + (u.2.2 33 sh.toNatClampNeg)).toNatClampNeg) (u.1 18)) hx hb hE.1 hP hD hS 25 0 rfl rfl (by assumption) (rfl) dX9_goThrough_21 (fun H locs hP hD hS => ?_)
  have hP := va_P_eq (WM_a38 cI cZ cB a u (((8 * sh) + (u.2.2 33 sh.toNatClampNeg)).toNatClampNeg) (u.1 18)) hP
  have hD := va_D_eq (WM_a38 cI cZ cB a u (((8 * sh) + (u.2.2 33 sh.toNatClampNeg)).toNatClampNeg) (u.1 18)) hD
  refine lv_iload_n hx hb dX9_goThrough_22 rfl (lv_at hl 0 rfl) ?_
  refine lv_aload_n hx hb dX9_goThrough_23 rfl (lv_at hl 1 rfl) ?_
  refine lv_aload_n hx hb dX9_goThrough_24 rfl (lv_at hl 1 rfl) ?_
  refine va_get (D := D) (ci := 10) (v := .ref (a 39)) (C := RX9) (T := TX9) (N := 45) hx hb hts im_X9_goThrough_X9 hown hE.1 hP 0 rfl rfl 39 (by decide) (hts (.fieldLink RX9 91 "RiverBridgesModel" "isUp" "[Z") (by decide +kernel)) (fun _ h9 => h9) rfl dX9_goThrough_25 ?_
  refine lv_iload_n hx hb dX9_goThrough_28 rfl (lv_at hl 2 rfl) ?_
  refine lx_zald (v := u.2.2 39 sh.toNatClampNeg) hx hb hE.1 hP 26 1 rfl rfl (by assumption) (rfl) dX9_goThrough_29 ?_
  refine lv_if_ne (tgt := 37) hx hb dX9_goThrough_30 (by decide) (fun cu => ?_) (fun cu => ?_)
  · replace hf := hf.trans (if_neg cu)
    refine lv_iconst (v := 0) hx hb dX9_goThrough_37 (by decide) ?_
    refine sf_calli (va_runV (As := [.int 0]) (rest := [.int (u.2.2 33 sh.toNatClampNeg)]) ⟨hx, hb, hml, hown, hts⟩ (m_first l D cI cZ cB cO cJ a0 H.size a  (sa u 38 (((8 * sh) + (u.2.2 33 sh.toNatClampNeg)).toNatClampNeg) (u.1 18)) 0 ) (cwV 1 hts gX9_goThrough_X9_first rfl rfl rfl (by decide +kernel) ⟨Nat.le_of_ble_eq_true rfl, Nat.le_of_ble_eq_true rfl⟩) (preV_full hE hZ hA hS hP hD (va_recv hE.1 hP (ci := 10) (q0 := 0) rfl rfl)) rfl rfl hl.1 rfl (lv_room (Nat.le_of_ble_eq_true rfl)) dX9_goThrough_38 ⟨Nat.le_of_ble_eq_true rfl, Nat.le_of_ble_eq_true rfl⟩) hP hD hS hA (fun r9 u9 H locs hw hP hD hS => ?_)
    subst hw
    have hP : va_P D vwCl (WM cI cZ cB a (sa u 38 (((8 * sh) + (u.2.2 33 sh.toNatClampNeg)).toNatClampNeg) (u.1 18))) H := hP
    have hD : va_D A (WM cI cZ cB a (sa u 38 (((8 * sh) + (u.2.2 33 sh.toNatClampNeg)).toNatClampNeg) (u.1 18))) := hD
    refine lv_icmp_ne (tgt := 62) hx hb dX9_goThrough_41 (by decide) (fun cf => ?_) (fun cf => ?_)
    · replace hf := hf.trans (if_neg cf)
      refine lv_aload_n hx hb dX9_goThrough_62 rfl (lv_at hl 1 rfl) ?_
      refine va_get (D := D) (ci := 10) (v := .ref (a 32)) (C := RX9) (T := TX9) (N := 45) hx hb hts im_X9_goThrough_X9 hown hE.1 hP 0 rfl rfl 32 (by decide) (hts (.fieldLink RX9 70 "RiverBridgesModel" "ship" "[I") (by decide +kernel)) (fun _ h9 => h9) rfl dX9_goThrough_63 ?_
      refine lv_iload_n hx hb dX9_goThrough_66 rfl (lv_at hl 2 rfl) ?_
      refine lv_iconst (v := 2) hx hb dX9_goThrough_67 (by decide) ?_
      refine lx_iast (g := upd (u.2.2 32) sh.toNatClampNeg 2) hx hb hE.1 hP hD hS 19 0 rfl rfl (by assumption) (rfl) dX9_goThrough_68 (fun H locs hP hD hS => ?_)
      have hP := va_P_eq (WM_a32 cI cZ cB a (sa u 38 (((8 * sh) + (u.2.2 33 sh.toNatClampNeg)).toNatClampNeg) (u.1 18)) sh.toNatClampNeg 2) hP
      have hD := va_D_eq (WM_a32 cI cZ cB a (sa u 38 (((8 * sh) + (u.2.2 33 sh.toNatClampNeg)).toNatClampNeg) (u.1 18)) sh.toNatClampNeg 2) hD
      refine lv_aload_n hx hb dX9_goThrough_69 rfl (lv_at hl 1 rfl) ?_
      refine va_get (D := D) (ci := 10) (v := .ref (a 33)) (C := RX9) (T := TX9) (N := 45) hx hb hts im_X9_goThrough_X9 hown hE.1 hP 0 rfl rfl 33 (by decide) (hts (.fieldLink RX9 73 "RiverBridgesModel" "where" "[I") (by decide +kernel)) (fun _ h9 => h9) rfl dX9_goThrough_70 ?_
      refine lv_iload_n hx hb dX9_goThrough_73 rfl (lv_at hl 2 rfl) ?_
      refine lv_aload_n hx hb dX9_goThrough_74 rfl (lv_at hl 1 rfl) ?_
      refine va_get (D := D) (ci := 10) (v := .ref (a 39)) (C := RX9) (T := TX9) (N := 45) hx hb hts im_X9_goThrough_X9 hown hE.1 hP 0 rfl rfl 39 (by decide) (hts (.fieldLink RX9 91 "RiverBridgesModel" "isUp" "[Z") (by decide +kernel)) (fun _ h9 => h9) rfl dX9_goThrough_75 ?_
      refine lv_iload_n hx hb dX9_goThrough_78 rfl (lv_at hl 2 rfl) ?_
      refine lx_zald (v := u.2.2 39 sh.toNatClampNeg) hx hb hE.1 hP 26 1 rfl rfl (by assumption) (rfl) dX9_goThrough_79 ?_
      refine lv_if_eq (tgt := 89) hx hb dX9_goThrough_80 (by decide) (fun c9 => absurd c9 (cu)) (fun _ => ?_)
      refine lv_iload_n hx hb dX9_goThrough_83 rfl (lv_at hl 0 rfl) ?_
      refine lv_iconst (v := 1) hx hb dX9_goThrough_84 (by decide) ?_
      refine lx_iadd (v := (u.2.2 33 sh.toNatClampNeg) + 1) hx hb (rfl) dX9_goThrough_85 ?_
      refine lv_goto (tgt := 92) hx hb dX9_goThrough_86 (by decide) ?_
      refine lx_iast (g := upd (u.2.2 33) sh.toNatClampNeg ((u.2.2 33 sh.toNatClampNeg) + 1)) hx hb hE.1 hP hD hS 20 0 rfl rfl (by assumption) (rfl) dX9_goThrough_92 (fun H locs hP hD hS => ?_)
      have hP := va_P_eq (WM_a33 cI cZ cB a (sa (sa u 38 (((8 * sh) + (u.2.2 33 sh.toNatClampNeg)).toNatClampNeg) (u.1 18)) 32 sh.toNatClampNeg 2) sh.toNatClampNeg ((u.2.2 33 sh.toNatClampNeg) + 1)) hP
      have hD := va_D_eq (WM_a33 cI cZ cB a (sa (sa u 38 (((8 * sh) + (u.2.2 33 sh.toNatClampNeg)).toNatClampNeg) (u.1 18)) 32 sh.toNatClampNeg 2) sh.toNatClampNeg ((u.2.2 33 sh.toNatClampNeg) + 1)) hD
      refine lv_aload_n hx hb dX9_goThrough_93 rfl (lv_at hl 1 rfl) ?_
      refine va_get (D := D) (ci := 10) (v := .ref (a 34)) (C := RX9) (T := TX9) (N := 45) hx hb hts im_X9_goThrough_X9 hown hE.1 hP 0 rfl rfl 34 (by decide) (hts (.fieldLink RX9 76 "RiverBridgesModel" "due" "[I") (by decide +kernel)) (fun _ h9 => h9) rfl dX9_goThrough_94 ?_
      refine lv_iload_n hx hb dX9_goThrough_97 rfl (lv_at hl 2 rfl) ?_
      refine lv_aload_n hx hb dX9_goThrough_98 rfl (lv_at hl 1 rfl) ?_
      refine va_get (D := D) (ci := 10) (v := .int (u.1 18)) (C := RX9) (T := TX9) (N := 45) hx hb hts im_X9_goThrough_X9 hown hE.1 hP 0 rfl rfl 18 (by decide) (hts (.fieldLink RX9 122 "RiverBridgesModel" "minute" "I") (by decide +kernel)) (fun _ h9 => h9) rfl dX9_goThrough_99 ?_
      refine lv_aload_n hx hb dX9_goThrough_102 rfl (lv_at hl 1 rfl) ?_
      refine va_get (D := D) (ci := 10) (v := .ref (a 8)) (C := RX9) (T := TX9) (N := 45) hx hb hts im_X9_goThrough_X9 hown hE.1 hP 0 rfl rfl 8 (by decide) (hts (.fieldLink RX9 23 "RiverBridgesModel" "way" "[I") (by decide +kernel)) (fun _ h9 => h9) rfl dX9_goThrough_103 ?_
      refine lv_aload_n hx hb dX9_goThrough_106 rfl (lv_at hl 1 rfl) ?_
      refine va_get (D := D) (ci := 10) (v := .ref (a 39)) (C := RX9) (T := TX9) (N := 45) hx hb hts im_X9_goThrough_X9 hown hE.1 hP 0 rfl rfl 39 (by decide) (hts (.fieldLink RX9 91 "RiverBridgesModel" "isUp" "[Z") (by decide +kernel)) (fun _ h9 => h9) rfl dX9_goThrough_107 ?_
      refine lv_iload_n hx hb dX9_goThrough_110 rfl (lv_at hl 2 rfl) ?_
      refine lx_zald (v := u.2.2 39 sh.toNatClampNeg) hx hb hE.1 hP 26 1 rfl rfl (by assumption) (rfl) dX9_goThrough_111 ?_
      refine lv_if_eq (tgt := 119) hx hb dX9_goThrough_112 (by decide) (fun c9 => absurd c9 (cu)) (fun _ => ?_)
      refine lv_iload_n hx hb dX9_goThrough_115 rfl (lv_at hl 0 rfl) ?_
      refine lv_goto (tgt := 122) hx hb dX9_goThrough_116 (by decide) ?_
      refine lx_iald (v := u.2.2 8 ((u.2.2 33 sh.toNatClampNeg).toNatClampNeg)) hx hb hE.1 hP 5 0 rfl rfl (hwh.inn (by have := hI.nB.2; omega) (by omega)) (rfl) dX9_goThrough_122 ?_
      refine lx_iadd (v := (u.1 18) + (u.2.2 8 ((u.2.2 33 sh.toNatClampNeg).toNatClampNeg))) hx hb (rfl) dX9_goThrough_123 ?_
      refine lx_iast (g := upd (u.2.2 34) sh.toNatClampNeg ((u.1 18) + (u.2.2 8 ((u.2.2 33 sh.toNatClampNeg).toNatClampNeg)))) hx hb hE.1 hP hD hS 21 0 rfl rfl (by assumption) (rfl) dX9_goThrough_124 (fun H locs hP hD hS => ?_)
      have hP := va_P_eq (WM_a34 cI cZ cB a (sa (sa (sa u 38 (((8 * sh) + (u.2.2 33 sh.toNatClampNeg)).toNatClampNeg) (u.1 18)) 32 sh.toNatClampNeg 2) 33 sh.toNatClampNeg ((u.2.2 33 sh.toNatClampNeg) + 1)) sh.toNatClampNeg ((u.1 18) + (u.2.2 8 ((u.2.2 33 sh.toNatClampNeg).toNatClampNeg)))) hP
      have hD := va_D_eq (WM_a34 cI cZ cB a (sa (sa (sa u 38 (((8 * sh) + (u.2.2 33 sh.toNatClampNeg)).toNatClampNeg) (u.1 18)) 32 sh.toNatClampNeg 2) 33 sh.toNatClampNeg ((u.2.2 33 sh.toNatClampNeg) + 1)) sh.toNatClampNeg ((u.1 18) + (u.2.2 8 ((u.2.2 33 sh.toNatClampNeg).toNatClampNeg)))) hD
      exact ss_vret () hx hb hr hlocks (by rw [hf]; exact hP) (by rw [hf]; exact hD) hS trivial (Nat.le_of_ble_eq_true rfl) (Nat.le_of_ble_eq_true rfl) dX9_goThrough_125
    · replace hf := hf.trans (if_pos cf)
      refine lv_aload_n hx hb dX9_goThrough_44 rfl (lv_at hl 1 rfl) ?_
      refine va_get (D := D) (ci := 10) (v := .ref (a 32)) (C := RX9) (T := TX9) (N := 45) hx hb hts im_X9_goThrough_X9 hown hE.1 hP 0 rfl rfl 32 (by decide) (hts (.fieldLink RX9 70 "RiverBridgesModel" "ship" "[I") (by decide +kernel)) (fun _ h9 => h9) rfl dX9_goThrough_45 ?_
      refine lv_iload_n hx hb dX9_goThrough_48 rfl (lv_at hl 2 rfl) ?_
      refine lv_iconst (v := 3) hx hb dX9_goThrough_49 (by decide) ?_
      refine lx_iast (g := upd (u.2.2 32) sh.toNatClampNeg 3) hx hb hE.1 hP hD hS 19 0 rfl rfl (by assumption) (rfl) dX9_goThrough_50 (fun H locs hP hD hS => ?_)
      have hP := va_P_eq (WM_a32 cI cZ cB a (sa u 38 (((8 * sh) + (u.2.2 33 sh.toNatClampNeg)).toNatClampNeg) (u.1 18)) sh.toNatClampNeg 3) hP
      have hD := va_D_eq (WM_a32 cI cZ cB a (sa u 38 (((8 * sh) + (u.2.2 33 sh.toNatClampNeg)).toNatClampNeg) (u.1 18)) sh.toNatClampNeg 3) hD
      refine lv_aload_n hx hb dX9_goThrough_51 rfl (lv_at hl 1 rfl) ?_
      refine va_get (D := D) (ci := 10) (v := .ref (a 37)) (C := RX9) (T := TX9) (N := 45) hx hb hts im_X9_goThrough_X9 hown hE.1 hP 0 rfl rfl 37 (by decide) (hts (.fieldLink RX9 85 "RiverBridgesModel" "done" "[I") (by decide +kernel)) (fun _ h9 => h9) rfl dX9_goThrough_52 ?_
      refine lv_iload_n hx hb dX9_goThrough_55 rfl (lv_at hl 2 rfl) ?_
      refine lv_aload_n hx hb dX9_goThrough_56 rfl (lv_at hl 1 rfl) ?_
      refine va_get (D := D) (ci := 10) (v := .int (u.1 18)) (C := RX9) (T := TX9) (N := 45) hx hb hts im_X9_goThrough_X9 hown hE.1 hP 0 rfl rfl 18 (by decide) (hts (.fieldLink RX9 122 "RiverBridgesModel" "minute" "I") (by decide +kernel)) (fun _ h9 => h9) rfl dX9_goThrough_57 ?_
      refine lx_iast (g := upd (u.2.2 37) sh.toNatClampNeg (u.1 18)) hx hb hE.1 hP hD hS 24 0 rfl rfl (by assumption) (rfl) dX9_goThrough_60 (fun H locs hP hD hS => ?_)
      have hP := va_P_eq (WM_a37 cI cZ cB a (sa (sa u 38 (((8 * sh) + (u.2.2 33 sh.toNatClampNeg)).toNatClampNeg) (u.1 18)) 32 sh.toNatClampNeg 3) sh.toNatClampNeg (u.1 18)) hP
      have hD := va_D_eq (WM_a37 cI cZ cB a (sa (sa u 38 (((8 * sh) + (u.2.2 33 sh.toNatClampNeg)).toNatClampNeg) (u.1 18)) 32 sh.toNatClampNeg 3) sh.toNatClampNeg (u.1 18)) hD
      exact ss_vret () hx hb hr hlocks (by rw [hf]; exact hP) (by rw [hf]; exact hD) hS trivial (Nat.le_of_ble_eq_true rfl) (Nat.le_of_ble_eq_true rfl) dX9_goThrough_61
  · replace hf := hf.trans (if_pos cu)
    refine lv_iconst (v := 1) hx hb dX9_goThrough_33 (by decide) ?_
    refine lv_goto (tgt := 38) hx hb dX9_goThrough_34 (by decide) ?_
    refine sf_calli (va_runV (As := [.int 1]) (rest := [.int (u.2.2 33 sh.toNatClampNeg)]) ⟨hx, hb, hml, hown, hts⟩ (m_first l D cI cZ cB cO cJ a0 H.size a  (sa u 38 (((8 * sh) + (u.2.2 33 sh.toNatClampNeg)).toNatClampNeg) (u.1 18)) 1 ) (cwV 1 hts gX9_goThrough_X9_first rfl rfl rfl (by decide +kernel) ⟨Nat.le_of_ble_eq_true rfl, Nat.le_of_ble_eq_true rfl⟩) (preV_full hE hZ hA hS hP hD (va_recv hE.1 hP (ci := 10) (q0 := 0) rfl rfl)) rfl rfl hl.1 rfl (lv_room (Nat.le_of_ble_eq_true rfl)) dX9_goThrough_38 ⟨Nat.le_of_ble_eq_true rfl, Nat.le_of_ble_eq_true rfl⟩) hP hD hS hA (fun r9 u9 H locs hw hP hD hS => ?_)
    subst hw
    have hP : va_P D vwCl (WM cI cZ cB a (sa u 38 (((8 * sh) + (u.2.2 33 sh.toNatClampNeg)).toNatClampNeg) (u.1 18))) H := hP
    have hD : va_D A (WM cI cZ cB a (sa u 38 (((8 * sh) + (u.2.2 33 sh.toNatClampNeg)).toNatClampNeg) (u.1 18))) := hD
    refine lv_icmp_ne (tgt := 62) hx hb dX9_goThrough_41 (by decide) (fun cf => ?_) (fun cf => ?_)
    · replace hf := hf.trans (if_neg cf)
      refine lv_aload_n hx hb dX9_goThrough_62 rfl (lv_at hl 1 rfl) ?_
      refine va_get (D := D) (ci := 10) (v := .ref (a 32)) (C := RX9) (T := TX9) (N := 45) hx hb hts im_X9_goThrough_X9 hown hE.1 hP 0 rfl rfl 32 (by decide) (hts (.fieldLink RX9 70 "RiverBridgesModel" "ship" "[I") (by decide +kernel)) (fun _ h9 => h9) rfl dX9_goThrough_63 ?_
      refine lv_iload_n hx hb dX9_goThrough_66 rfl (lv_at hl 2 rfl) ?_
      refine lv_iconst (v := 2) hx hb dX9_goThrough_67 (by decide) ?_
      refine lx_iast (g := upd (u.2.2 32) sh.toNatClampNeg 2) hx hb hE.1 hP hD hS 19 0 rfl rfl (by assumption) (rfl) dX9_goThrough_68 (fun H locs hP hD hS => ?_)
      have hP := va_P_eq (WM_a32 cI cZ cB a (sa u 38 (((8 * sh) + (u.2.2 33 sh.toNatClampNeg)).toNatClampNeg) (u.1 18)) sh.toNatClampNeg 2) hP
      have hD := va_D_eq (WM_a32 cI cZ cB a (sa u 38 (((8 * sh) + (u.2.2 33 sh.toNatClampNeg)).toNatClampNeg) (u.1 18)) sh.toNatClampNeg 2) hD
      refine lv_aload_n hx hb dX9_goThrough_69 rfl (lv_at hl 1 rfl) ?_
      refine va_get (D := D) (ci := 10) (v := .ref (a 33)) (C := RX9) (T := TX9) (N := 45) hx hb hts im_X9_goThrough_X9 hown hE.1 hP 0 rfl rfl 33 (by decide) (hts (.fieldLink RX9 73 "RiverBridgesModel" "where" "[I") (by decide +kernel)) (fun _ h9 => h9) rfl dX9_goThrough_70 ?_
      refine lv_iload_n hx hb dX9_goThrough_73 rfl (lv_at hl 2 rfl) ?_
      refine lv_aload_n hx hb dX9_goThrough_74 rfl (lv_at hl 1 rfl) ?_
      refine va_get (D := D) (ci := 10) (v := .ref (a 39)) (C := RX9) (T := TX9) (N := 45) hx hb hts im_X9_goThrough_X9 hown hE.1 hP 0 rfl rfl 39 (by decide) (hts (.fieldLink RX9 91 "RiverBridgesModel" "isUp" "[Z") (by decide +kernel)) (fun _ h9 => h9) rfl dX9_goThrough_75 ?_
      refine lv_iload_n hx hb dX9_goThrough_78 rfl (lv_at hl 2 rfl) ?_
      refine lx_zald (v := u.2.2 39 sh.toNatClampNeg) hx hb hE.1 hP 26 1 rfl rfl (by assumption) (rfl) dX9_goThrough_79 ?_
      refine lv_if_eq (tgt := 89) hx hb dX9_goThrough_80 (by decide) (fun _ => ?_) (fun c9 => absurd (cu) c9)
      refine lv_iload_n hx hb dX9_goThrough_89 rfl (lv_at hl 0 rfl) ?_
      refine lv_iconst (v := 1) hx hb dX9_goThrough_90 (by decide) ?_
      refine lx_isub (v := (u.2.2 33 sh.toNatClampNeg) - 1) hx hb (rfl) dX9_goThrough_91 ?_
      refine lx_iast (g := upd (u.2.2 33) sh.toNatClampNeg ((u.2.2 33 sh.toNatClampNeg) - 1)) hx hb hE.1 hP hD hS 20 0 rfl rfl (by assumption) (rfl) dX9_goThrough_92 (fun H locs hP hD hS => ?_)
      have hP := va_P_eq (WM_a33 cI cZ cB a (sa (sa u 38 (((8 * sh) + (u.2.2 33 sh.toNatClampNeg)).toNatClampNeg) (u.1 18)) 32 sh.toNatClampNeg 2) sh.toNatClampNeg ((u.2.2 33 sh.toNatClampNeg) - 1)) hP
      have hD := va_D_eq (WM_a33 cI cZ cB a (sa (sa u 38 (((8 * sh) + (u.2.2 33 sh.toNatClampNeg)).toNatClampNeg) (u.1 18)) 32 sh.toNatClampNeg 2) sh.toNatClampNeg ((u.2.2 33 sh.toNatClampNeg) - 1)) hD
      refine lv_aload_n hx hb dX9_goThrough_93 rfl (lv_at hl 1 rfl) ?_
      refine va_get (D := D) (ci := 10) (v := .ref (a 34)) (C := RX9) (T := TX9) (N := 45) hx hb hts im_X9_goThrough_X9 hown hE.1 hP 0 rfl rfl 34 (by decide) (hts (.fieldLink RX9 76 "RiverBridgesModel" "due" "[I") (by decide +kernel)) (fun _ h9 => h9) rfl dX9_goThrough_94 ?_
      refine lv_iload_n hx hb dX9_goThrough_97 rfl (lv_at hl 2 rfl) ?_
      refine lv_aload_n hx hb dX9_goThrough_98 rfl (lv_at hl 1 rfl) ?_
      refine va_get (D := D) (ci := 10) (v := .int (u.1 18)) (C := RX9) (T := TX9) (N := 45) hx hb hts im_X9_goThrough_X9 hown hE.1 hP 0 rfl rfl 18 (by decide) (hts (.fieldLink RX9 122 "RiverBridgesModel" "minute" "I") (by decide +kernel)) (fun _ h9 => h9) rfl dX9_goThrough_99 ?_
      refine lv_aload_n hx hb dX9_goThrough_102 rfl (lv_at hl 1 rfl) ?_
      refine va_get (D := D) (ci := 10) (v := .ref (a 8)) (C := RX9) (T := TX9) (N := 45) hx hb hts im_X9_goThrough_X9 hown hE.1 hP 0 rfl rfl 8 (by decide) (hts (.fieldLink RX9 23 "RiverBridgesModel" "way" "[I") (by decide +kernel)) (fun _ h9 => h9) rfl dX9_goThrough_103 ?_
      refine lv_aload_n hx hb dX9_goThrough_106 rfl (lv_at hl 1 rfl) ?_
      refine va_get (D := D) (ci := 10) (v := .ref (a 39)) (C := RX9) (T := TX9) (N := 45) hx hb hts im_X9_goThrough_X9 hown hE.1 hP 0 rfl rfl 39 (by decide) (hts (.fieldLink RX9 91 "RiverBridgesModel" "isUp" "[Z") (by decide +kernel)) (fun _ h9 => h9) rfl dX9_goThrough_107 ?_
      refine lv_iload_n hx hb dX9_goThrough_110 rfl (lv_at hl 2 rfl) ?_
      refine lx_zald (v := u.2.2 39 sh.toNatClampNeg) hx hb hE.1 hP 26 1 rfl rfl (by assumption) (rfl) dX9_goThrough_111 ?_
      refine lv_if_eq (tgt := 119) hx hb dX9_goThrough_112 (by decide) (fun _ => ?_) (fun c9 => absurd (cu) c9)
      refine lv_iload_n hx hb dX9_goThrough_119 rfl (lv_at hl 0 rfl) ?_
      refine lv_iconst (v := 1) hx hb dX9_goThrough_120 (by decide) ?_
      refine lx_isub (v := (u.2.2 33 sh.toNatClampNeg) - 1) hx hb (rfl) dX9_goThrough_121 ?_
      refine lx_iald (v := u.2.2 8 (((u.2.2 33 sh.toNatClampNeg) - 1).toNatClampNeg)) hx hb hE.1 hP 5 0 rfl rfl (ix_pred hwh hI.nB.2 (fun e9 => cf (e9.trans (f_first_1 _).symm))) (rfl) dX9_goThrough_122 ?_
      refine lx_iadd (v := (u.1 18) + (u.2.2 8 (((u.2.2 33 sh.toNatClampNeg) - 1).toNatClampNeg))) hx hb (rfl) dX9_goThrough_123 ?_
      refine lx_iast (g := upd (u.2.2 34) sh.toNatClampNeg ((u.1 18) + (u.2.2 8 (((u.2.2 33 sh.toNatClampNeg) - 1).toNatClampNeg)))) hx hb hE.1 hP hD hS 21 0 rfl rfl (by assumption) (rfl) dX9_goThrough_124 (fun H locs hP hD hS => ?_)
      have hP := va_P_eq (WM_a34 cI cZ cB a (sa (sa (sa u 38 (((8 * sh) + (u.2.2 33 sh.toNatClampNeg)).toNatClampNeg) (u.1 18)) 32 sh.toNatClampNeg 2) 33 sh.toNatClampNeg ((u.2.2 33 sh.toNatClampNeg) - 1)) sh.toNatClampNeg ((u.1 18) + (u.2.2 8 (((u.2.2 33 sh.toNatClampNeg) - 1).toNatClampNeg)))) hP
      have hD := va_D_eq (WM_a34 cI cZ cB a (sa (sa (sa u 38 (((8 * sh) + (u.2.2 33 sh.toNatClampNeg)).toNatClampNeg) (u.1 18)) 32 sh.toNatClampNeg 2) 33 sh.toNatClampNeg ((u.2.2 33 sh.toNatClampNeg) - 1)) sh.toNatClampNeg ((u.1 18) + (u.2.2 8 (((u.2.2 33 sh.toNatClampNeg) - 1).toNatClampNeg)))) hD
      exact ss_vret () hx hb hr hlocks (by rw [hf]; exact hP) (by rw [hf]; exact hD) hS trivial (Nat.le_of_ble_eq_true rfl) (Nat.le_of_ble_eq_true rfl) dX9_goThrough_125
    · replace hf := hf.trans (if_pos cf)
      refine lv_aload_n hx hb dX9_goThrough_44 rfl (lv_at hl 1 rfl) ?_
      refine va_get (D := D) (ci := 10) (v := .ref (a 32)) (C := RX9) (T := TX9) (N := 45) hx hb hts im_X9_goThrough_X9 hown hE.1 hP 0 rfl rfl 32 (by decide) (hts (.fieldLink RX9 70 "RiverBridgesModel" "ship" "[I") (by decide +kernel)) (fun _ h9 => h9) rfl dX9_goThrough_45 ?_
      refine lv_iload_n hx hb dX9_goThrough_48 rfl (lv_at hl 2 rfl) ?_
      refine lv_iconst (v := 3) hx hb dX9_goThrough_49 (by decide) ?_
      refine lx_iast (g := upd (u.2.2 32) sh.toNatClampNeg 3) hx hb hE.1 hP hD hS 19 0 rfl rfl (by assumption) (rfl) dX9_goThrough_50 (fun H locs hP hD hS => ?_)
      have hP := va_P_eq (WM_a32 cI cZ cB a (sa u 38 (((8 * sh) + (u.2.2 33 sh.toNatClampNeg)).toNatClampNeg) (u.1 18)) sh.toNatClampNeg 3) hP
      have hD := va_D_eq (WM_a32 cI cZ cB a (sa u 38 (((8 * sh) + (u.2.2 33 sh.toNatClampNeg)).toNatClampNeg) (u.1 18)) sh.toNatClampNeg 3) hD
      refine lv_aload_n hx hb dX9_goThrough_51 rfl (lv_at hl 1 rfl) ?_
      refine va_get (D := D) (ci := 10) (v := .ref (a 37)) (C := RX9) (T := TX9) (N := 45) hx hb hts im_X9_goThrough_X9 hown hE.1 hP 0 rfl rfl 37 (by decide) (hts (.fieldLink RX9 85 "RiverBridgesModel" "done" "[I") (by decide +kernel)) (fun _ h9 => h9) rfl dX9_goThrough_52 ?_
      refine lv_iload_n hx hb dX9_goThrough_55 rfl (lv_at hl 2 rfl) ?_
      refine lv_aload_n hx hb dX9_goThrough_56 rfl (lv_at hl 1 rfl) ?_
      refine va_get (D := D) (ci := 10) (v := .int (u.1 18)) (C := RX9) (T := TX9) (N := 45) hx hb hts im_X9_goThrough_X9 hown hE.1 hP 0 rfl rfl 18 (by decide) (hts (.fieldLink RX9 122 "RiverBridgesModel" "minute" "I") (by decide +kernel)) (fun _ h9 => h9) rfl dX9_goThrough_57 ?_
      refine lx_iast (g := upd (u.2.2 37) sh.toNatClampNeg (u.1 18)) hx hb hE.1 hP hD hS 24 0 rfl rfl (by assumption) (rfl) dX9_goThrough_60 (fun H locs hP hD hS => ?_)
      have hP := va_P_eq (WM_a37 cI cZ cB a (sa (sa u 38 (((8 * sh) + (u.2.2 33 sh.toNatClampNeg)).toNatClampNeg) (u.1 18)) 32 sh.toNatClampNeg 3) sh.toNatClampNeg (u.1 18)) hP
      have hD := va_D_eq (WM_a37 cI cZ cB a (sa (sa u 38 (((8 * sh) + (u.2.2 33 sh.toNatClampNeg)).toNatClampNeg) (u.1 18)) 32 sh.toNatClampNeg 3) sh.toNatClampNeg (u.1 18)) hD
      exact ss_vret () hx hb hr hlocks (by rw [hf]; exact hP) (by rw [hf]; exact hD) hS trivial (Nat.le_of_ble_eq_true rfl) (Nat.le_of_ble_eq_true rfl) dX9_goThrough_61
def f_turn (u : RS) (b : Int32) : RS := (if u.2.2 11 b.toNatClampNeg = 2 then (if f_isWanted u b = 0 then (sa (sa u 11 b.toNatClampNeg 3) 12 b.toNatClampNeg ((u.1 18) + (u.2.2 7 b.toNatClampNeg))) else (if f_isBarred u b ((u.1 18) + 1) ((u.1 18) + (u.2.2 7 b.toNatClampNeg)) = 0 then (if u.2.2 11 b.toNatClampNeg = 0 then (if f_isWanted u b = 0 then u else (if f_hasKeeper u b 0 = 0 then u else (if f_isBarred u b (u.1 18) (((u.1 18) + (u.2.2 6 b.toNatClampNeg)) + (u.2.2 7 b.toNatClampNeg)) = 0 then (sa (sa (sa u 11 b.toNatClampNeg 1) 12 b.toNatClampNeg ((u.1 18) + (u.2.2 6 b.toNatClampNeg))) 14 b.toNatClampNeg ((u.2.2 14 b.toNatClampNeg) + 1)) else u))) else u) else (sa (sa u 11 b.toNatClampNeg 3) 12 b.toNatClampNeg ((u.1 18) + (u.2.2 7 b.toNatClampNeg))))) else (if u.2.2 11 b.toNatClampNeg = 0 then (if f_isWanted u b = 0 then u else (if f_hasKeeper u b 0 = 0 then u else (if f_isBarred u b (u.1 18) (((u.1 18) + (u.2.2 6 b.toNatClampNeg)) + (u.2.2 7 b.toNatClampNeg)) = 0 then (sa (sa (sa u 11 b.toNatClampNeg 1) 12 b.toNatClampNeg ((u.1 18) + (u.2.2 6 b.toNatClampNeg))) 14 b.toNatClampNeg ((u.2.2 14 b.toNatClampNeg) + 1)) else u))) else u))
theorem f_turn_s (u : RS) (b : Int32) : f_turn u b = (if u.2.2 11 b.toNatClampNeg = 2 then (if f_isWanted u b = 0 then (sa (sa u 11 b.toNatClampNeg 3) 12 b.toNatClampNeg ((u.1 18) + (u.2.2 7 b.toNatClampNeg))) else (if f_isBarred u b ((u.1 18) + 1) ((u.1 18) + (u.2.2 7 b.toNatClampNeg)) = 0 then (if u.2.2 11 b.toNatClampNeg = 0 then (if f_isWanted u b = 0 then u else (if f_hasKeeper u b 0 = 0 then u else (if f_isBarred u b (u.1 18) (((u.1 18) + (u.2.2 6 b.toNatClampNeg)) + (u.2.2 7 b.toNatClampNeg)) = 0 then (sa (sa (sa u 11 b.toNatClampNeg 1) 12 b.toNatClampNeg ((u.1 18) + (u.2.2 6 b.toNatClampNeg))) 14 b.toNatClampNeg ((u.2.2 14 b.toNatClampNeg) + 1)) else u))) else u) else (sa (sa u 11 b.toNatClampNeg 3) 12 b.toNatClampNeg ((u.1 18) + (u.2.2 7 b.toNatClampNeg))))) else (if u.2.2 11 b.toNatClampNeg = 0 then (if f_isWanted u b = 0 then u else (if f_hasKeeper u b 0 = 0 then u else (if f_isBarred u b (u.1 18) (((u.1 18) + (u.2.2 6 b.toNatClampNeg)) + (u.2.2 7 b.toNatClampNeg)) = 0 then (sa (sa (sa u 11 b.toNatClampNeg 1) 12 b.toNatClampNeg ((u.1 18) + (u.2.2 6 b.toNatClampNeg))) 14 b.toNatClampNeg ((u.2.2 14 b.toNatClampNeg) + 1)) else u))) else u)) := rfl
theorem im_X9_turn_X9 : ∀ w ∈ wsX90, w ∈ wsX9_turn := fun _ h => List.mem_cons_of_mem _ (List.mem_append_right _ h)
set_option maxHeartbeats 400000 in
set_option maxRecDepth 100000 in
theorem m_turn (l : Launch) (D : va_G) (cI cZ cB cO cJ : ClassId) (a0 sz : Nat) (a : Nat → Nat) (nB nS nK mi ln : Nat) (u : RS) (b : Int32) (hI : MI nB nS nK mi ln u) (hbB : ixN b nB) : Met l yX9_turn wsX9_turn ({ frames := 1, cells := 0, slots := 0, locals := 24 }) (Pcs D cI cZ cB cO cJ a0 [.ref (a 45), .int b] (WM cI cZ cB a u) sz) (va_Qv (fun (_ : Unit) => True) (fun (_ : Unit) t => va_P D vwCl (WM cI cZ cB a (f_turn u b)) t.heap ∧ va_D (va_A (WM cI cZ cB a u) sz) (WM cI cZ cB a (f_turn u b))) (va_A (WM cI cZ cB a u) sz)) 0 0 (va_A (WM cI cZ cB a u) sz) := by
  refine Met.ofW (cc := cX9_turn) (maxL := 3) (ret := none) (by decide) rfl ?_
  intro p e s m args below meth c s₁ B hml hv
  obtain ⟨rfl, hsz, hP, hE, hD0, hZ⟩ := hv
  have hx := B.exec
  have hb := B.bytes
  have hr := B.returns
  have hts := atoms_spec (ws := wsX9_turn) B.pre
  have hown : s.vm.findClass RX9 = some m.cls := findClass_of_methodNamed B.named
  have hlocks := B.notSynchronized
  subst hsz
  have hD := hD0.self (sz := s.heap.size)
  generalize hAe : va_A (WM cI cZ cB a u) s.heap.size = A at hD hZ ⊢
  have hA : ∀ q : Nat, s.heap.size ≤ q → A q := fun q h => by rw [← hAe]; exact Or.inr h
  clear hAe
  have hS : va_S A s.heap s.heap [] := va_S.rf
  have hP : va_P D vwCl (WM cI cZ cB a u) s.heap := hP
  have hl := lv_entry ([.ref (a 45), .int b]) (n := 3) (Nat.le_of_ble_eq_true rfl)
  rw [lg_entry_eq]
  generalize (lg_sl ([.ref (a 45), .int b]) ++ List.replicate (3 - (lg_sl ([.ref (a 45), .int b])).length) Slot.unset).toArray = ls at hl ⊢
  have hl : lv_has ls 3 [(0, .ref (a 45)), (1, .int b)] := hl
  have hf := f_turn_s u b
  have i1 := hbB.inn (N := 8) hI.nB.2 (by omega)
  refine lv_aload_n hx hb dX9_turn_0 rfl (lv_at hl 0 rfl) ?_
  refine lv_iload_n hx hb dX9_turn_1 rfl (lv_at hl 1 rfl) ?_
  refine sf_calli (va_runV (As := [.int b]) (rest := []) ⟨hx, hb, hml, hown, hts⟩ (m_isWanted l D cI cZ cB cO cJ a0 s.heap.size a _ _ _ _ _  u b (hI)) (cwV 1 hts gX9_turn_X9_isWanted rfl rfl rfl (by decide +kernel) ⟨Nat.le_of_ble_eq_true rfl, Nat.le_of_ble_eq_true rfl⟩) (preV_full hE hZ hA hS hP hD (va_recv hE.1 hP (ci := 10) (q0 := 0) rfl rfl)) rfl rfl hl.1 rfl (lv_room (Nat.le_of_ble_eq_true rfl)) dX9_turn_2 ⟨Nat.le_of_ble_eq_true rfl, Nat.le_of_ble_eq_true rfl⟩) hP hD hS hA (fun r9 u9 H locs hw hP hD hS => ?_)
  subst hw
  have hP : va_P D vwCl (WM cI cZ cB a u) H := hP
  have hD : va_D A (WM cI cZ cB a u) := hD
  refine lv_istore_n (lv' := [(2, .int (f_isWanted u b)), (0, .ref (a 45)), (1, .int b)]) hx hb dX9_turn_5 rfl hl (by decide) rfl (fun ls hl => ?_)
  refine lv_aload_n hx hb dX9_turn_6 rfl (lv_at hl 1 rfl) ?_
  refine va_get (D := D) (ci := 10) (v := .ref (a 11)) (C := RX9) (T := TX9) (N := 45) hx hb hts im_X9_turn_X9 hown hE.1 hP 0 rfl rfl 11 (by decide) (hts (.fieldLink RX9 32 "RiverBridgesModel" "state" "[I") (by decide +kernel)) (fun _ h9 => h9) rfl dX9_turn_7 ?_
  refine lv_iload_n hx hb dX9_turn_10 rfl (lv_at hl 2 rfl) ?_
  refine lx_iald (v := u.2.2 11 b.toNatClampNeg) hx hb hE.1 hP 8 0 rfl rfl (by assumption) (rfl) dX9_turn_11 ?_
  refine lv_iconst (v := 2) hx hb dX9_turn_12 (by decide) ?_
  refine lv_icmp_ne (tgt := 72) hx hb dX9_turn_13 (by decide) (fun c1 => ?_) (fun c1 => ?_)
  · replace hf := hf.trans (if_neg c1)
    refine lv_aload_n hx hb dX9_turn_72 rfl (lv_at hl 1 rfl) ?_
    refine va_get (D := D) (ci := 10) (v := .ref (a 11)) (C := RX9) (T := TX9) (N := 45) hx hb hts im_X9_turn_X9 hown hE.1 hP 0 rfl rfl 11 (by decide) (hts (.fieldLink RX9 32 "RiverBridgesModel" "state" "[I") (by decide +kernel)) (fun _ h9 => h9) rfl dX9_turn_73 ?_
    refine lv_iload_n hx hb dX9_turn_76 rfl (lv_at hl 2 rfl) ?_
    refine lx_iald (v := u.2.2 11 b.toNatClampNeg) hx hb hE.1 hP 8 0 rfl rfl (by assumption) (rfl) dX9_turn_77 ?_
    refine lv_if_ne (tgt := 158) hx hb dX9_turn_78 (by decide) (fun c2 => ?_) (fun c2 => ?_)
    · replace hf := hf.trans (if_neg c2)
      exact ss_vret () hx hb hr hlocks (by rw [hf]; exact hP) (by rw [hf]; exact hD) hS trivial (Nat.le_of_ble_eq_true rfl) (Nat.le_of_ble_eq_true rfl) dX9_turn_158
    · replace hf := hf.trans (if_pos c2)
      refine lv_iload_n hx hb dX9_turn_81 rfl (lv_at hl 0 rfl) ?_
      refine lv_if_eq (tgt := 158) hx hb dX9_turn_82 (by decide) (fun c3 => ?_) (fun c3 => ?_)
      · replace hf := hf.trans (if_pos c3)
        exact ss_vret () hx hb hr hlocks (by rw [hf]; exact hP) (by rw [hf]; exact hD) hS trivial (Nat.le_of_ble_eq_true rfl) (Nat.le_of_ble_eq_true rfl) dX9_turn_158
      · replace hf := hf.trans (if_neg c3)
        refine lv_aload_n hx hb dX9_turn_85 rfl (lv_at hl 1 rfl) ?_
        refine lv_iload_n hx hb dX9_turn_86 rfl (lv_at hl 2 rfl) ?_
        refine lv_iconst (v := 0) hx hb dX9_turn_87 (by decide) ?_
        refine sf_calli (va_runV (As := [.int b, .int 0]) (rest := []) ⟨hx, hb, hml, hown, hts⟩ (m_hasKeeper l D cI cZ cB cO cJ a0 H.size a _ _ _ _ _  u b 0 (hI)) (cwV 2 hts gX9_turn_X9_hasKeeper rfl rfl rfl (by decide +kernel) ⟨Nat.le_of_ble_eq_true rfl, Nat.le_of_ble_eq_true rfl⟩) (preV_full hE hZ hA hS hP hD (va_recv hE.1 hP (ci := 10) (q0 := 0) rfl rfl)) rfl rfl hl.1 rfl (lv_room (Nat.le_of_ble_eq_true rfl)) dX9_turn_88 ⟨Nat.le_of_ble_eq_true rfl, Nat.le_of_ble_eq_true rfl⟩) hP hD hS hA (fun r9 u9 H locs hw hP hD hS => ?_)
        subst hw
        have hP : va_P D vwCl (WM cI cZ cB a u) H := hP
        have hD : va_D A (WM cI cZ cB a u) := hD
        refine lv_if_eq (tgt := 158) hx hb dX9_turn_91 (by decide) (fun c4 => ?_) (fun c4 => ?_)
        · replace hf := hf.trans (if_pos c4)
          exact ss_vret () hx hb hr hlocks (by rw [hf]; exact hP) (by rw [hf]; exact hD) hS trivial (Nat.le_of_ble_eq_true rfl) (Nat.le_of_ble_eq_true rfl) dX9_turn_158
        · replace hf := hf.trans (if_neg c4)
          refine lv_aload_n hx hb dX9_turn_94 rfl (lv_at hl 1 rfl) ?_
          refine lv_iload_n hx hb dX9_turn_95 rfl (lv_at hl 2 rfl) ?_
          refine lv_aload_n hx hb dX9_turn_96 rfl (lv_at hl 1 rfl) ?_
          refine va_get (D := D) (ci := 10) (v := .int (u.1 18)) (C := RX9) (T := TX9) (N := 45) hx hb hts im_X9_turn_X9 hown hE.1 hP 0 rfl rfl 18 (by decide) (hts (.fieldLink RX9 122 "RiverBridgesModel" "minute" "I") (by decide +kernel)) (fun _ h9 => h9) rfl dX9_turn_97 ?_
          refine lv_aload_n hx hb dX9_turn_100 rfl (lv_at hl 1 rfl) ?_
          refine va_get (D := D) (ci := 10) (v := .int (u.1 18)) (C := RX9) (T := TX9) (N := 45) hx hb hts im_X9_turn_X9 hown hE.1 hP 0 rfl rfl 18 (by decide) (hts (.fieldLink RX9 122 "RiverBridgesModel" "minute" "I") (by decide +kernel)) (fun _ h9 => h9) rfl dX9_turn_101 ?_
          refine lv_aload_n hx hb dX9_turn_104 rfl (lv_at hl 1 rfl) ?_
          refine va_get (D := D) (ci := 10) (v := .ref (a 6)) (C := RX9) (T := TX9) (N := 45) hx hb hts im_X9_turn_X9 hown hE.1 hP 0 rfl rfl 6 (by decide) (hts (.fieldLink RX9 17 "RiverBridgesModel" "opens" "[I") (by decide +kernel)) (fun _ h9 => h9) rfl dX9_turn_105 ?_
          refine lv_iload_n hx hb dX9_turn_108 rfl (lv_at hl 2 rfl) ?_
          refine lx_iald (v := u.2.2 6 b.toNatClampNeg) hx hb hE.1 hP 3 0 rfl rfl (by assumption) (rfl) dX9_turn_109 ?_
          refine lx_iadd (v := (u.1 18) + (u.2.2 6 b.toNatClampNeg)) hx hb (rfl) dX9_turn_110 ?_
          refine lv_aload_n hx hb dX9_turn_111 rfl (lv_at hl 1 rfl) ?_
          refine va_get (D := D) (ci := 10) (v := .ref (a 7)) (C := RX9) (T := TX9) (N := 45) hx hb hts im_X9_turn_X9 hown hE.1 hP 0 rfl rfl 7 (by decide) (hts (.fieldLink RX9 20 "RiverBridgesModel" "shuts" "[I") (by decide +kernel)) (fun _ h9 => h9) rfl dX9_turn_112 ?_
          refine lv_iload_n hx hb dX9_turn_115 rfl (lv_at hl 2 rfl) ?_
          refine lx_iald (v := u.2.2 7 b.toNatClampNeg) hx hb hE.1 hP 4 0 rfl rfl (by assumption) (rfl) dX9_turn_116 ?_
          refine lx_iadd (v := ((u.1 18) + (u.2.2 6 b.toNatClampNeg)) + (u.2.2 7 b.toNatClampNeg)) hx hb (rfl) dX9_turn_117 ?_
          refine sf_calli (va_runV (As := [.int b, .int (u.1 18), .int (((u.1 18) + (u.2.2 6 b.toNatClampNeg)) + (u.2.2 7 b.toNatClampNeg))]) (rest := []) ⟨hx, hb, hml, hown, hts⟩ (m_isBarred l D cI cZ cB cO cJ a0 H.size a _ _ _ _ _  u b (u.1 18) (((u.1 18) + (u.2.2 6 b.toNatClampNeg)) + (u.2.2 7 b.toNatClampNeg)) (hI) (hbB.mono hI.nB.2)) (cwV 3 hts gX9_turn_X9_isBarred rfl rfl rfl (by decide +kernel) ⟨Nat.le_of_ble_eq_true rfl, Nat.le_of_ble_eq_true rfl⟩) (preV_full hE hZ hA hS hP hD (va_recv hE.1 hP (ci := 10) (q0 := 0) rfl rfl)) rfl rfl hl.1 rfl (lv_room (Nat.le_of_ble_eq_true rfl)) dX9_turn_118 ⟨Nat.le_of_ble_eq_true rfl, Nat.le_of_ble_eq_true rfl⟩) hP hD hS hA (fun r9 u9 H locs hw hP hD hS => ?_)
          subst hw
          have hP : va_P D vwCl (WM cI cZ cB a u) H := hP
          have hD : va_D A (WM cI cZ cB a u) := hD
          refine lv_if_ne (tgt := 158) hx hb dX9_turn_121 (by decide) (fun c5 => ?_) (fun c5 => ?_)
          · replace hf := hf.trans (if_neg c5)
            exact ss_vret () hx hb hr hlocks (by rw [hf]; exact hP) (by rw [hf]; exact hD) hS trivial (Nat.le_of_ble_eq_true rfl) (Nat.le_of_ble_eq_true rfl) dX9_turn_158
          · replace hf := hf.trans (if_pos c5)
            refine lv_aload_n hx hb dX9_turn_124 rfl (lv_at hl 1 rfl) ?_
            refine va_get (D := D) (ci := 10) (v := .ref (a 11)) (C := RX9) (T := TX9) (N := 45) hx hb hts im_X9_turn_X9 hown hE.1 hP 0 rfl rfl 11 (by decide) (hts (.fieldLink RX9 32 "RiverBridgesModel" "state" "[I") (by decide +kernel)) (fun _ h9 => h9) rfl dX9_turn_125 ?_
            refine lv_iload_n hx hb dX9_turn_128 rfl (lv_at hl 2 rfl) ?_
            refine lv_iconst (v := 1) hx hb dX9_turn_129 (by decide) ?_
            refine lx_iast (g := upd (u.2.2 11) b.toNatClampNeg 1) hx hb hE.1 hP hD hS 8 0 rfl rfl (by assumption) (rfl) dX9_turn_130 (fun H locs hP hD hS => ?_)
            have hP := va_P_eq (WM_a11 cI cZ cB a u b.toNatClampNeg 1) hP
            have hD := va_D_eq (WM_a11 cI cZ cB a u b.toNatClampNeg 1) hD
            refine lv_aload_n hx hb dX9_turn_131 rfl (lv_at hl 1 rfl) ?_
            refine va_get (D := D) (ci := 10) (v := .ref (a 12)) (C := RX9) (T := TX9) (N := 45) hx hb hts im_X9_turn_X9 hown hE.1 hP 0 rfl rfl 12 (by decide) (hts (.fieldLink RX9 35 "RiverBridgesModel" "until" "[I") (by decide +kernel)) (fun _ h9 => h9) rfl dX9_turn_132 ?_
            refine lv_iload_n hx hb dX9_turn_135 rfl (lv_at hl 2 rfl) ?_
            refine lv_aload_n hx hb dX9_turn_136 rfl (lv_at hl 1 rfl) ?_
            refine va_get (D := D) (ci := 10) (v := .int (u.1 18)) (C := RX9) (T := TX9) (N := 45) hx hb hts im_X9_turn_X9 hown hE.1 hP 0 rfl rfl 18 (by decide) (hts (.fieldLink RX9 122 "RiverBridgesModel" "minute" "I") (by decide +kernel)) (fun _ h9 => h9) rfl dX9_turn_137 ?_
            refine lv_aload_n hx hb dX9_turn_140 rfl (lv_at hl 1 rfl) ?_
            refine va_get (D := D) (ci := 10) (v := .ref (a 6)) (C := RX9) (T := TX9) (N := 45) hx hb hts im_X9_turn_X9 hown hE.1 hP 0 rfl rfl 6 (by decide) (hts (.fieldLink RX9 17 "RiverBridgesModel" "opens" "[I") (by decide +kernel)) (fun _ h9 => h9) rfl dX9_turn_141 ?_
            refine lv_iload_n hx hb dX9_turn_144 rfl (lv_at hl 2 rfl) ?_
            refine lx_iald (v := u.2.2 6 b.toNatClampNeg) hx hb hE.1 hP 3 0 rfl rfl (by assumption) (rfl) dX9_turn_145 ?_
            refine lx_iadd (v := (u.1 18) + (u.2.2 6 b.toNatClampNeg)) hx hb (rfl) dX9_turn_146 ?_
            refine lx_iast (g := upd (u.2.2 12) b.toNatClampNeg ((u.1 18) + (u.2.2 6 b.toNatClampNeg))) hx hb hE.1 hP hD hS 9 0 rfl rfl (by assumption) (rfl) dX9_turn_147 (fun H locs hP hD hS => ?_)
            have hP := va_P_eq (WM_a12 cI cZ cB a (sa u 11 b.toNatClampNeg 1) b.toNatClampNeg ((u.1 18) + (u.2.2 6 b.toNatClampNeg))) hP
            have hD := va_D_eq (WM_a12 cI cZ cB a (sa u 11 b.toNatClampNeg 1) b.toNatClampNeg ((u.1 18) + (u.2.2 6 b.toNatClampNeg))) hD
            refine lv_aload_n hx hb dX9_turn_148 rfl (lv_at hl 1 rfl) ?_
            refine va_get (D := D) (ci := 10) (v := .ref (a 14)) (C := RX9) (T := TX9) (N := 45) hx hb hts im_X9_turn_X9 hown hE.1 hP 0 rfl rfl 14 (by decide) (hts (.fieldLink RX9 41 "RiverBridgesModel" "opened" "[I") (by decide +kernel)) (fun _ h9 => h9) rfl dX9_turn_149 ?_
            refine lv_iload_n hx hb dX9_turn_152 rfl (lv_at hl 2 rfl) ?_
            refine lv_dup2_11 hx hb dX9_turn_153 rfl rfl ?_
            refine lx_iald (v := u.2.2 14 b.toNatClampNeg) hx hb hE.1 hP 11 0 rfl rfl (by assumption) (rfl) dX9_turn_154 ?_
            refine lv_iconst (v := 1) hx hb dX9_turn_155 (by decide) ?_
            refine lx_iadd (v := (u.2.2 14 b.toNatClampNeg) + 1) hx hb (rfl) dX9_turn_156 ?_
            refine lx_iast (g := upd (u.2.2 14) b.toNatClampNeg ((u.2.2 14 b.toNatClampNeg) + 1)) hx hb hE.1 hP hD hS 11 0 rfl rfl (by assumption) (rfl) dX9_turn_157 (fun H locs hP hD hS => ?_)
            have hP := va_P_eq (WM_a14 cI cZ cB a (sa (sa u 11 b.toNatClampNeg 1) 12 b.toNatClampNeg ((u.1 18) + (u.2.2 6 b.toNatClampNeg))) b.toNatClampNeg ((u.2.2 14 b.toNatClampNeg) + 1)) hP
            have hD := va_D_eq (WM_a14 cI cZ cB a (sa (sa u 11 b.toNatClampNeg 1) 12 b.toNatClampNeg ((u.1 18) + (u.2.2 6 b.toNatClampNeg))) b.toNatClampNeg ((u.2.2 14 b.toNatClampNeg) + 1)) hD
            exact ss_vret () hx hb hr hlocks (by rw [hf]; exact hP) (by rw [hf]; exact hD) hS trivial (Nat.le_of_ble_eq_true rfl) (Nat.le_of_ble_eq_true rfl) dX9_turn_158
  · replace hf := hf.trans (if_pos c1)
    refine lv_iload_n hx hb dX9_turn_16 rfl (lv_at hl 0 rfl) ?_
    refine lv_if_eq (tgt := 45) hx hb dX9_turn_17 (by decide) (fun c6 => ?_) (fun c6 => ?_)
    · replace hf := hf.trans (if_pos c6)
      refine lv_aload_n hx hb dX9_turn_45 rfl (lv_at hl 1 rfl) ?_
      refine va_get (D := D) (ci := 10) (v := .ref (a 11)) (C := RX9) (T := TX9) (N := 45) hx hb hts im_X9_turn_X9 hown hE.1 hP 0 rfl rfl 11 (by decide) (hts (.fieldLink RX9 32 "RiverBridgesModel" "state" "[I") (by decide +kernel)) (fun _ h9 => h9) rfl dX9_turn_46 ?_
      refine lv_iload_n hx hb dX9_turn_49 rfl (lv_at hl 2 rfl) ?_
      refine lv_iconst (v := 3) hx hb dX9_turn_50 (by decide) ?_
      refine lx_iast (g := upd (u.2.2 11) b.toNatClampNeg 3) hx hb hE.1 hP hD hS 8 0 rfl rfl (by assumption) (rfl) dX9_turn_51 (fun H locs hP hD hS => ?_)
      have hP := va_P_eq (WM_a11 cI cZ cB a u b.toNatClampNeg 3) hP
      have hD := va_D_eq (WM_a11 cI cZ cB a u b.toNatClampNeg 3) hD
      refine lv_aload_n hx hb dX9_turn_52 rfl (lv_at hl 1 rfl) ?_
      refine va_get (D := D) (ci := 10) (v := .ref (a 12)) (C := RX9) (T := TX9) (N := 45) hx hb hts im_X9_turn_X9 hown hE.1 hP 0 rfl rfl 12 (by decide) (hts (.fieldLink RX9 35 "RiverBridgesModel" "until" "[I") (by decide +kernel)) (fun _ h9 => h9) rfl dX9_turn_53 ?_
      refine lv_iload_n hx hb dX9_turn_56 rfl (lv_at hl 2 rfl) ?_
      refine lv_aload_n hx hb dX9_turn_57 rfl (lv_at hl 1 rfl) ?_
      refine va_get (D := D) (ci := 10) (v := .int (u.1 18)) (C := RX9) (T := TX9) (N := 45) hx hb hts im_X9_turn_X9 hown hE.1 hP 0 rfl rfl 18 (by decide) (hts (.fieldLink RX9 122 "RiverBridgesModel" "minute" "I") (by decide +kernel)) (fun _ h9 => h9) rfl dX9_turn_58 ?_
      refine lv_aload_n hx hb dX9_turn_61 rfl (lv_at hl 1 rfl) ?_
      refine va_get (D := D) (ci := 10) (v := .ref (a 7)) (C := RX9) (T := TX9) (N := 45) hx hb hts im_X9_turn_X9 hown hE.1 hP 0 rfl rfl 7 (by decide) (hts (.fieldLink RX9 20 "RiverBridgesModel" "shuts" "[I") (by decide +kernel)) (fun _ h9 => h9) rfl dX9_turn_62 ?_
      refine lv_iload_n hx hb dX9_turn_65 rfl (lv_at hl 2 rfl) ?_
      refine lx_iald (v := u.2.2 7 b.toNatClampNeg) hx hb hE.1 hP 4 0 rfl rfl (by assumption) (rfl) dX9_turn_66 ?_
      refine lx_iadd (v := (u.1 18) + (u.2.2 7 b.toNatClampNeg)) hx hb (rfl) dX9_turn_67 ?_
      refine lx_iast (g := upd (u.2.2 12) b.toNatClampNeg ((u.1 18) + (u.2.2 7 b.toNatClampNeg))) hx hb hE.1 hP hD hS 9 0 rfl rfl (by assumption) (rfl) dX9_turn_68 (fun H locs hP hD hS => ?_)
      have hP := va_P_eq (WM_a12 cI cZ cB a (sa u 11 b.toNatClampNeg 3) b.toNatClampNeg ((u.1 18) + (u.2.2 7 b.toNatClampNeg))) hP
      have hD := va_D_eq (WM_a12 cI cZ cB a (sa u 11 b.toNatClampNeg 3) b.toNatClampNeg ((u.1 18) + (u.2.2 7 b.toNatClampNeg))) hD
      refine lv_goto (tgt := 158) hx hb dX9_turn_69 (by decide) ?_
      exact ss_vret () hx hb hr hlocks (by rw [hf]; exact hP) (by rw [hf]; exact hD) hS trivial (Nat.le_of_ble_eq_true rfl) (Nat.le_of_ble_eq_true rfl) dX9_turn_158
    · replace hf := hf.trans (if_neg c6)
      refine lv_aload_n hx hb dX9_turn_20 rfl (lv_at hl 1 rfl) ?_
      refine lv_iload_n hx hb dX9_turn_21 rfl (lv_at hl 2 rfl) ?_
      refine lv_aload_n hx hb dX9_turn_22 rfl (lv_at hl 1 rfl) ?_
      refine va_get (D := D) (ci := 10) (v := .int (u.1 18)) (C := RX9) (T := TX9) (N := 45) hx hb hts im_X9_turn_X9 hown hE.1 hP 0 rfl rfl 18 (by decide) (hts (.fieldLink RX9 122 "RiverBridgesModel" "minute" "I") (by decide +kernel)) (fun _ h9 => h9) rfl dX9_turn_23 ?_
      refine lv_iconst (v := 1) hx hb dX9_turn_26 (by decide) ?_
      refine lx_iadd (v := (u.1 18) + 1) hx hb (rfl) dX9_turn_27 ?_
      refine lv_aload_n hx hb dX9_turn_28 rfl (lv_at hl 1 rfl) ?_
      refine va_get (D := D) (ci := 10) (v := .int (u.1 18)) (C := RX9) (T := TX9) (N := 45) hx hb hts im_X9_turn_X9 hown hE.1 hP 0 rfl rfl 18 (by decide) (hts (.fieldLink RX9 122 "RiverBridgesModel" "minute" "I") (by decide +kernel)) (fun _ h9 => h9) rfl dX9_turn_29 ?_
      refine lv_aload_n hx hb dX9_turn_32 rfl (lv_at hl 1 rfl) ?_
      refine va_get (D := D) (ci := 10) (v := .ref (a 7)) (C := RX9) (T := TX9) (N := 45) hx hb hts im_X9_turn_X9 hown hE.1 hP 0 rfl rfl 7 (by decide) (hts (.fieldLink RX9 20 "RiverBridgesModel" "shuts" "[I") (by decide +kernel)) (fun _ h9 => h9) rfl dX9_turn_33 ?_
      refine lv_iload_n hx hb dX9_turn_36 rfl (lv_at hl 2 rfl) ?_
      refine lx_iald (v := u.2.2 7 b.toNatClampNeg) hx hb hE.1 hP 4 0 rfl rfl (by assumption) (rfl) dX9_turn_37 ?_
      refine lx_iadd (v := (u.1 18) + (u.2.2 7 b.toNatClampNeg)) hx hb (rfl) dX9_turn_38 ?_
      refine sf_calli (va_runV (As := [.int b, .int ((u.1 18) + 1), .int ((u.1 18) + (u.2.2 7 b.toNatClampNeg))]) (rest := []) ⟨hx, hb, hml, hown, hts⟩ (m_isBarred l D cI cZ cB cO cJ a0 H.size a _ _ _ _ _  u b ((u.1 18) + 1) ((u.1 18) + (u.2.2 7 b.toNatClampNeg)) (hI) (hbB.mono hI.nB.2)) (cwV 3 hts gX9_turn_X9_isBarred rfl rfl rfl (by decide +kernel) ⟨Nat.le_of_ble_eq_true rfl, Nat.le_of_ble_eq_true rfl⟩) (preV_full hE hZ hA hS hP hD (va_recv hE.1 hP (ci := 10) (q0 := 0) rfl rfl)) rfl rfl hl.1 rfl (lv_room (Nat.le_of_ble_eq_true rfl)) dX9_turn_39 ⟨Nat.le_of_ble_eq_true rfl, Nat.le_of_ble_eq_true rfl⟩) hP hD hS hA (fun r9 u9 H locs hw hP hD hS => ?_)
      subst hw
      have hP : va_P D vwCl (WM cI cZ cB a u) H := hP
      have hD : va_D A (WM cI cZ cB a u) := hD
      refine lv_if_eq (tgt := 72) hx hb dX9_turn_42 (by decide) (fun c7 => ?_) (fun c7 => ?_)
      · replace hf := hf.trans (if_pos c7)
        refine lv_aload_n hx hb dX9_turn_72 rfl (lv_at hl 1 rfl) ?_
        refine va_get (D := D) (ci := 10) (v := .ref (a 11)) (C := RX9) (T := TX9) (N := 45) hx hb hts im_X9_turn_X9 hown hE.1 hP 0 rfl rfl 11 (by decide) (hts (.fieldLink RX9 32 "RiverBridgesModel" "state" "[I") (by decide +kernel)) (fun _ h9 => h9) rfl dX9_turn_73 ?_
        refine lv_iload_n hx hb dX9_turn_76 rfl (lv_at hl 2 rfl) ?_
        refine lx_iald (v := u.2.2 11 b.toNatClampNeg) hx hb hE.1 hP 8 0 rfl rfl (by assumption) (rfl) dX9_turn_77 ?_
        refine lv_if_ne (tgt := 158) hx hb dX9_turn_78 (by decide) (fun c8 => ?_) (fun c8 => ?_)
        · replace hf := hf.trans (if_neg c8)
          exact ss_vret () hx hb hr hlocks (by rw [hf]; exact hP) (by rw [hf]; exact hD) hS trivial (Nat.le_of_ble_eq_true rfl) (Nat.le_of_ble_eq_true rfl) dX9_turn_158
        · replace hf := hf.trans (if_pos c8)
          refine lv_iload_n hx hb dX9_turn_81 rfl (lv_at hl 0 rfl) ?_
          refine lv_if_eq (tgt := 158) hx hb dX9_turn_82 (by decide) (fun c9 => ?_) (fun c9 => ?_)
          · replace hf := hf.trans (if_pos c9)
            exact ss_vret () hx hb hr hlocks (by rw [hf]; exact hP) (by rw [hf]; exact hD) hS trivial (Nat.le_of_ble_eq_true rfl) (Nat.le_of_ble_eq_true rfl) dX9_turn_158
          · replace hf := hf.trans (if_neg c9)
            refine lv_aload_n hx hb dX9_turn_85 rfl (lv_at hl 1 rfl) ?_
            refine lv_iload_n hx hb dX9_turn_86 rfl (lv_at hl 2 rfl) ?_
            refine lv_iconst (v := 0) hx hb dX9_turn_87 (by decide) ?_
            refine sf_calli (va_runV (As := [.int b, .int 0]) (rest := []) ⟨hx, hb, hml, hown, hts⟩ (m_hasKeeper l D cI cZ cB cO cJ a0 H.size a _ _ _ _ _  u b 0 (hI)) (cwV 2 hts gX9_turn_X9_hasKeeper rfl rfl rfl (by decide +kernel) ⟨Nat.le_of_ble_eq_true rfl, Nat.le_of_ble_eq_true rfl⟩) (preV_full hE hZ hA hS hP hD (va_recv hE.1 hP (ci := 10) (q0 := 0) rfl rfl)) rfl rfl hl.1 rfl (lv_room (Nat.le_of_ble_eq_true rfl)) dX9_turn_88 ⟨Nat.le_of_ble_eq_true rfl, Nat.le_of_ble_eq_true rfl⟩) hP hD hS hA (fun r9 u9 H locs hw hP hD hS => ?_)
            subst hw
            have hP : va_P D vwCl (WM cI cZ cB a u) H := hP
            have hD : va_D A (WM cI cZ cB a u) := hD
            refine lv_if_eq (tgt := 158) hx hb dX9_turn_91 (by decide) (fun c10 => ?_) (fun c10 => ?_)
            · replace hf := hf.trans (if_pos c10)
              exact ss_vret () hx hb hr hlocks (by rw [hf]; exact hP) (by rw [hf]; exact hD) hS trivial (Nat.le_of_ble_eq_true rfl) (Nat.le_of_ble_eq_true rfl) dX9_turn_158
            · replace hf := hf.trans (if_neg c10)
              refine lv_aload_n hx hb dX9_turn_94 rfl (lv_at hl 1 rfl) ?_
              refine lv_iload_n hx hb dX9_turn_95 rfl (lv_at hl 2 rfl) ?_
              refine lv_aload_n hx hb dX9_turn_96 rfl (lv_at hl 1 rfl) ?_
              refine va_get (D := D) (ci := 10) (v := .int (u.1 18)) (C := RX9) (T := TX9) (N := 45) hx hb hts im_X9_turn_X9 hown hE.1 hP 0 rfl rfl 18 (by decide) (hts (.fieldLink RX9 122 "RiverBridgesModel" "minute" "I") (by decide +kernel)) (fun _ h9 => h9) rfl dX9_turn_97 ?_
              refine lv_aload_n hx hb dX9_turn_100 rfl (lv_at hl 1 rfl) ?_
              refine va_get (D := D) (ci := 10) (v := .int (u.1 18)) (C := RX9) (T := TX9) (N := 45) hx hb hts im_X9_turn_X9 hown hE.1 hP 0 rfl rfl 18 (by decide) (hts (.fieldLink RX9 122 "RiverBridgesModel" "minute" "I") (by decide +kernel)) (fun _ h9 => h9) rfl dX9_turn_101 ?_
              refine lv_aload_n hx hb dX9_turn_104 rfl (lv_at hl 1 rfl) ?_
              refine va_get (D := D) (ci := 10) (v := .ref (a 6)) (C := RX9) (T := TX9) (N := 45) hx hb hts im_X9_turn_X9 hown hE.1 hP 0 rfl rfl 6 (by decide) (hts (.fieldLink RX9 17 "RiverBridgesModel" "opens" "[I") (by decide +kernel)) (fun _ h9 => h9) rfl dX9_turn_105 ?_
              refine lv_iload_n hx hb dX9_turn_108 rfl (lv_at hl 2 rfl) ?_
              refine lx_iald (v := u.2.2 6 b.toNatClampNeg) hx hb hE.1 hP 3 0 rfl rfl (by assumption) (rfl) dX9_turn_109 ?_
              refine lx_iadd (v := (u.1 18) + (u.2.2 6 b.toNatClampNeg)) hx hb (rfl) dX9_turn_110 ?_
              refine lv_aload_n hx hb dX9_turn_111 rfl (lv_at hl 1 rfl) ?_
              refine va_get (D := D) (ci := 10) (v := .ref (a 7)) (C := RX9) (T := TX9) (N := 45) hx hb hts im_X9_turn_X9 hown hE.1 hP 0 rfl rfl 7 (by decide) (hts (.fieldLink RX9 20 "RiverBridgesModel" "shuts" "[I") (by decide +kernel)) (fun _ h9 => h9) rfl dX9_turn_112 ?_
              refine lv_iload_n hx hb dX9_turn_115 rfl (lv_at hl 2 rfl) ?_
              refine lx_iald (v := u.2.2 7 b.toNatClampNeg) hx hb hE.1 hP 4 0 rfl rfl (by assumption) (rfl) dX9_turn_116 ?_
              refine lx_iadd (v := ((u.1 18) + (u.2.2 6 b.toNatClampNeg)) + (u.2.2 7 b.toNatClampNeg)) hx hb (rfl) dX9_turn_117 ?_
              refine sf_calli (va_runV (As := [.int b, .int (u.1 18), .int (((u.1 18) + (u.2.2 6 b.toNatClampNeg)) + (u.2.2 7 b.toNatClampNeg))]) (rest := []) ⟨hx, hb, hml, hown, hts⟩ (m_isBarred l D cI cZ cB cO cJ a0 H.size a _ _ _ _ _  u b (u.1 18) (((u.1 18) + (u.2.2 6 b.toNatClampNeg)) + (u.2.2 7 b.toNatClampNeg)) (hI) (hbB.mono hI.nB.2)) (cwV 3 hts gX9_turn_X9_isBarred rfl rfl rfl (by decide +kernel) ⟨Nat.le_of_ble_eq_true rfl, Nat.le_of_ble_eq_true rfl⟩) (preV_full hE hZ hA hS hP hD (va_recv hE.1 hP (ci := 10) (q0 := 0) rfl rfl)) rfl rfl hl.1 rfl (lv_room (Nat.le_of_ble_eq_true rfl)) dX9_turn_118 ⟨Nat.le_of_ble_eq_true rfl, Nat.le_of_ble_eq_true rfl⟩) hP hD hS hA (fun r9 u9 H locs hw hP hD hS => ?_)
              subst hw
              have hP : va_P D vwCl (WM cI cZ cB a u) H := hP
              have hD : va_D A (WM cI cZ cB a u) := hD
              refine lv_if_ne (tgt := 158) hx hb dX9_turn_121 (by decide) (fun c11 => ?_) (fun c11 => ?_)
              · replace hf := hf.trans (if_neg c11)
                exact ss_vret () hx hb hr hlocks (by rw [hf]; exact hP) (by rw [hf]; exact hD) hS trivial (Nat.le_of_ble_eq_true rfl) (Nat.le_of_ble_eq_true rfl) dX9_turn_158
              · replace hf := hf.trans (if_pos c11)
                refine lv_aload_n hx hb dX9_turn_124 rfl (lv_at hl 1 rfl) ?_
                refine va_get (D := D) (ci := 10) (v := .ref (a 11)) (C := RX9) (T := TX9) (N := 45) hx hb hts im_X9_turn_X9 hown hE.1 hP 0 rfl rfl 11 (by decide) (hts (.fieldLink RX9 32 "RiverBridgesModel" "state" "[I") (by decide +kernel)) (fun _ h9 => h9) rfl dX9_turn_125 ?_
                refine lv_iload_n hx hb dX9_turn_128 rfl (lv_at hl 2 rfl) ?_
                refine lv_iconst (v := 1) hx hb dX9_turn_129 (by decide) ?_
                refine lx_iast (g := upd (u.2.2 11) b.toNatClampNeg 1) hx hb hE.1 hP hD hS 8 0 rfl rfl (by assumption) (rfl) dX9_turn_130 (fun H locs hP hD hS => ?_)
                have hP := va_P_eq (WM_a11 cI cZ cB a u b.toNatClampNeg 1) hP
                have hD := va_D_eq (WM_a11 cI cZ cB a u b.toNatClampNeg 1) hD
                refine lv_aload_n hx hb dX9_turn_131 rfl (lv_at hl 1 rfl) ?_
                refine va_get (D := D) (ci := 10) (v := .ref (a 12)) (C := RX9) (T := TX9) (N := 45) hx hb hts im_X9_turn_X9 hown hE.1 hP 0 rfl rfl 12 (by decide) (hts (.fieldLink RX9 35 "RiverBridgesModel" "until" "[I") (by decide +kernel)) (fun _ h9 => h9) rfl dX9_turn_132 ?_
                refine lv_iload_n hx hb dX9_turn_135 rfl (lv_at hl 2 rfl) ?_
                refine lv_aload_n hx hb dX9_turn_136 rfl (lv_at hl 1 rfl) ?_
                refine va_get (D := D) (ci := 10) (v := .int (u.1 18)) (C := RX9) (T := TX9) (N := 45) hx hb hts im_X9_turn_X9 hown hE.1 hP 0 rfl rfl 18 (by decide) (hts (.fieldLink RX9 122 "RiverBridgesModel" "minute" "I") (by decide +kernel)) (fun _ h9 => h9) rfl dX9_turn_137 ?_
                refine lv_aload_n hx hb dX9_turn_140 rfl (lv_at hl 1 rfl) ?_
                refine va_get (D := D) (ci := 10) (v := .ref (a 6)) (C := RX9) (T := TX9) (N := 45) hx hb hts im_X9_turn_X9 hown hE.1 hP 0 rfl rfl 6 (by decide) (hts (.fieldLink RX9 17 "RiverBridgesModel" "opens" "[I") (by decide +kernel)) (fun _ h9 => h9) rfl dX9_turn_141 ?_
                refine lv_iload_n hx hb dX9_turn_144 rfl (lv_at hl 2 rfl) ?_
                refine lx_iald (v := u.2.2 6 b.toNatClampNeg) hx hb hE.1 hP 3 0 rfl rfl (by assumption) (rfl) dX9_turn_145 ?_
                refine lx_iadd (v := (u.1 18) + (u.2.2 6 b.toNatClampNeg)) hx hb (rfl) dX9_turn_146 ?_
                refine lx_iast (g := upd (u.2.2 12) b.toNatClampNeg ((u.1 18) + (u.2.2 6 b.toNatClampNeg))) hx hb hE.1 hP hD hS 9 0 rfl rfl (by assumption) (rfl) dX9_turn_147 (fun H locs hP hD hS => ?_)
                have hP := va_P_eq (WM_a12 cI cZ cB a (sa u 11 b.toNatClampNeg 1) b.toNatClampNeg ((u.1 18) + (u.2.2 6 b.toNatClampNeg))) hP
                have hD := va_D_eq (WM_a12 cI cZ cB a (sa u 11 b.toNatClampNeg 1) b.toNatClampNeg ((u.1 18) + (u.2.2 6 b.toNatClampNeg))) hD
                refine lv_aload_n hx hb dX9_turn_148 rfl (lv_at hl 1 rfl) ?_
                refine va_get (D := D) (ci := 10) (v := .ref (a 14)) (C := RX9) (T := TX9) (N := 45) hx hb hts im_X9_turn_X9 hown hE.1 hP 0 rfl rfl 14 (by decide) (hts (.fieldLink RX9 41 "RiverBridgesModel" "opened" "[I") (by decide +kernel)) (fun _ h9 => h9) rfl dX9_turn_149 ?_
                refine lv_iload_n hx hb dX9_turn_152 rfl (lv_at hl 2 rfl) ?_
                refine lv_dup2_11 hx hb dX9_turn_153 rfl rfl ?_
                refine lx_iald (v := u.2.2 14 b.toNatClampNeg) hx hb hE.1 hP 11 0 rfl rfl (by assumption) (rfl) dX9_turn_154 ?_
                refine lv_iconst (v := 1) hx hb dX9_turn_155 (by decide) ?_
                refine lx_iadd (v := (u.2.2 14 b.toNatClampNeg) + 1) hx hb (rfl) dX9_turn_156 ?_
                refine lx_iast (g := upd (u.2.2 14) b.toNatClampNeg ((u.2.2 14 b.toNatClampNeg) + 1)) hx hb hE.1 hP hD hS 11 0 rfl rfl (by assumption) (rfl) dX9_turn_157 (fun H locs hP hD hS => ?_)
                have hP := va_P_eq (WM_a14 cI cZ cB a (sa (sa u 11 b.toNatClampNeg 1) 12 b.toNatClampNeg ((u.1 18) + (u.2.2 6 b.toNatClampNeg))) b.toNatClampNeg ((u.2.2 14 b.toNatClampNeg) + 1)) hP
                have hD := va_D_eq (WM_a14 cI cZ cB a (sa (sa u 11 b.toNatClampNeg 1) 12 b.toNatClampNeg ((u.1 18) + (u.2.2 6 b.toNatClampNeg))) b.toNatClampNeg ((u.2.2 14 b.toNatClampNeg) + 1)) hD
                exact ss_vret () hx hb hr hlocks (by rw [hf]; exact hP) (by rw [hf]; exact hD) hS trivial (Nat.le_of_ble_eq_true rfl) (Nat.le_of_ble_eq_true rfl) dX9_turn_158
      · replace hf := hf.trans (if_neg c7)
        refine lv_aload_n hx hb dX9_turn_45 rfl (lv_at hl 1 rfl) ?_
        refine va_get (D := D) (ci := 10) (v := .ref (a 11)) (C := RX9) (T := TX9) (N := 45) hx hb hts im_X9_turn_X9 hown hE.1 hP 0 rfl rfl 11 (by decide) (hts (.fieldLink RX9 32 "RiverBridgesModel" "state" "[I") (by decide +kernel)) (fun _ h9 => h9) rfl dX9_turn_46 ?_
        refine lv_iload_n hx hb dX9_turn_49 rfl (lv_at hl 2 rfl) ?_
        refine lv_iconst (v := 3) hx hb dX9_turn_50 (by decide) ?_
        refine lx_iast (g := upd (u.2.2 11) b.toNatClampNeg 3) hx hb hE.1 hP hD hS 8 0 rfl rfl (by assumption) (rfl) dX9_turn_51 (fun H locs hP hD hS => ?_)
        have hP := va_P_eq (WM_a11 cI cZ cB a u b.toNatClampNeg 3) hP
        have hD := va_D_eq (WM_a11 cI cZ cB a u b.toNatClampNeg 3) hD
        refine lv_aload_n hx hb dX9_turn_52 rfl (lv_at hl 1 rfl) ?_
        refine va_get (D := D) (ci := 10) (v := .ref (a 12)) (C := RX9) (T := TX9) (N := 45) hx hb hts im_X9_turn_X9 hown hE.1 hP 0 rfl rfl 12 (by decide) (hts (.fieldLink RX9 35 "RiverBridgesModel" "until" "[I") (by decide +kernel)) (fun _ h9 => h9) rfl dX9_turn_53 ?_
        refine lv_iload_n hx hb dX9_turn_56 rfl (lv_at hl 2 rfl) ?_
        refine lv_aload_n hx hb dX9_turn_57 rfl (lv_at hl 1 rfl) ?_
        refine va_get (D := D) (ci := 10) (v := .int (u.1 18)) (C := RX9) (T := TX9) (N := 45) hx hb hts im_X9_turn_X9 hown hE.1 hP 0 rfl rfl 18 (by decide) (hts (.fieldLink RX9 122 "RiverBridgesModel" "minute" "I") (by decide +kernel)) (fun _ h9 => h9) rfl dX9_turn_58 ?_
        refine lv_aload_n hx hb dX9_turn_61 rfl (lv_at hl 1 rfl) ?_
        refine va_get (D := D) (ci := 10) (v := .ref (a 7)) (C := RX9) (T := TX9) (N := 45) hx hb hts im_X9_turn_X9 hown hE.1 hP 0 rfl rfl 7 (by decide) (hts (.fieldLink RX9 20 "RiverBridgesModel" "shuts" "[I") (by decide +kernel)) (fun _ h9 => h9) rfl dX9_turn_62 ?_
        refine lv_iload_n hx hb dX9_turn_65 rfl (lv_at hl 2 rfl) ?_
        refine lx_iald (v := u.2.2 7 b.toNatClampNeg) hx hb hE.1 hP 4 0 rfl rfl (by assumption) (rfl) dX9_turn_66 ?_
        refine lx_iadd (v := (u.1 18) + (u.2.2 7 b.toNatClampNeg)) hx hb (rfl) dX9_turn_67 ?_
        refine lx_iast (g := upd (u.2.2 12) b.toNatClampNeg ((u.1 18) + (u.2.2 7 b.toNatClampNeg))) hx hb hE.1 hP hD hS 9 0 rfl rfl (by assumption) (rfl) dX9_turn_68 (fun H locs hP hD hS => ?_)
        have hP := va_P_eq (WM_a12 cI cZ cB a (sa u 11 b.toNatClampNeg 3) b.toNatClampNeg ((u.1 18) + (u.2.2 7 b.toNatClampNeg))) hP
        have hD := va_D_eq (WM_a12 cI cZ cB a (sa u 11 b.toNatClampNeg 3) b.toNatClampNeg ((u.1 18) + (u.2.2 7 b.toNatClampNeg))) hD
        refine lv_goto (tgt := 158) hx hb dX9_turn_69 (by decide) ?_
        exact ss_vret () hx hb hr hlocks (by rw [hf]; exact hP) (by rw [hf]; exact hD) hS trivial (Nat.le_of_ble_eq_true rfl) (Nat.le_of_ble_eq_true rfl) dX9_turn_158
def lp_send (u : RS) (kp : Int32) : Nat → Int32 → Nat → Int32
  | 0, x1, k => x1
  | n + 1, x1, k => (if u.1 17 ≤ nI k then x1 else (if f_isWanted u (nI k) = 0 then (lp_send u kp n x1 (k + 1)) else (if f_hasKeeper u (nI k) 1 = 0 then (if x1 < 0 then (lp_send u kp n (nI k) (k + 1)) else (if f_far u (u.2.2 41 kp.toNatClampNeg) x1 ≤ f_far u (u.2.2 41 kp.toNatClampNeg) (nI k) then (lp_send u kp n x1 (k + 1)) else (lp_send u kp n (nI k) (k + 1)))) else (lp_send u kp n x1 (k + 1)))))
theorem lp_send_s (u : RS) (kp : Int32) (n : Nat) (x1 : Int32) (k : Nat) : lp_send u kp (n + 1) x1 k = (if u.1 17 ≤ nI k then x1 else (if f_isWanted u (nI k) = 0 then (lp_send u kp n x1 (k + 1)) else (if f_hasKeeper u (nI k) 1 = 0 then (if x1 < 0 then (lp_send u kp n (nI k) (k + 1)) else (if f_far u (u.2.2 41 kp.toNatClampNeg) x1 ≤ f_far u (u.2.2 41 kp.toNatClampNeg) (nI k) then (lp_send u kp n x1 (k + 1)) else (lp_send u kp n (nI k) (k + 1)))) else (lp_send u kp n x1 (k + 1))))) := rfl
def f_send (u : RS) (kp : Int32) : RS := (if u.2.2 41 kp.toNatClampNeg < 0 then u else (if u.2.2 11 ((u.2.2 41 kp.toNatClampNeg).toNatClampNeg) = 0 then (if f_isWanted u (u.2.2 41 kp.toNatClampNeg) = 0 then (if 0 ≤ (lp_send u kp 9 (-1) 0) then (sa (sa (sa u 41 kp.toNatClampNeg (-1)) 42 kp.toNatClampNeg (lp_send u kp 9 (-1) 0)) 43 kp.toNatClampNeg ((u.1 18) + ((u.1 19) * (f_far (sa (sa u 41 kp.toNatClampNeg (-1)) 42 kp.toNatClampNeg (lp_send u kp 9 (-1) 0)) (u.2.2 41 kp.toNatClampNeg) (lp_send u kp 9 (-1) 0))))) else u) else u) else u))
theorem f_send_s (u : RS) (kp : Int32) : f_send u kp = (if u.2.2 41 kp.toNatClampNeg < 0 then u else (if u.2.2 11 ((u.2.2 41 kp.toNatClampNeg).toNatClampNeg) = 0 then (if f_isWanted u (u.2.2 41 kp.toNatClampNeg) = 0 then (if 0 ≤ (lp_send u kp 9 (-1) 0) then (sa (sa (sa u 41 kp.toNatClampNeg (-1)) 42 kp.toNatClampNeg (lp_send u kp 9 (-1) 0)) 43 kp.toNatClampNeg ((u.1 18) + ((u.1 19) * (f_far (sa (sa u 41 kp.toNatClampNeg (-1)) 42 kp.toNatClampNeg (lp_send u kp 9 (-1) 0)) (u.2.2 41 kp.toNatClampNeg) (lp_send u kp 9 (-1) 0))))) else u) else u) else u)) := rfl
theorem im_X9_send_X9 : ∀ w ∈ wsX90, w ∈ wsX9_send := fun _ h => List.mem_cons_of_mem _ (List.mem_append_right _ h)
set_option maxHeartbeats 400000 in
set_option maxRecDepth 100000 in
theorem m_send (l : Launch) (D : va_G) (cI cZ cB cO cJ : ClassId) (a0 sz : Nat) (a : Nat → Nat) (nB nS nK mi ln : Nat) (u : RS) (kp : Int32) (hI : MI nB nS nK mi ln u) (hk0 : ixN kp nK) : Met l yX9_send wsX9_send ({ frames := 1, cells := 0, slots := 0, locals := 24 }) (Pcs D cI cZ cB cO cJ a0 [.ref (a 45), .int kp] (WM cI cZ cB a u) sz) (va_Qv (fun (_ : Unit) => True) (fun (_ : Unit) t => va_P D vwCl (WM cI cZ cB a (f_send u kp)) t.heap ∧ va_D (va_A (WM cI cZ cB a u) sz) (WM cI cZ cB a (f_send u kp))) (va_A (WM cI cZ cB a u) sz)) 0 0 (va_A (WM cI cZ cB a u) sz) := by
  refine Met.ofW (cc := cX9_send) (maxL := 5) (ret := none) (by decide) rfl ?_
  intro p e s m args below meth c s₁ B hml hv
  obtain ⟨rfl, hsz, hP, hE, hD0, hZ⟩ := hv
  have hx := B.exec
  have hb := B.bytes
  have hr := B.returns
  have hts := atoms_spec (ws := wsX9_send) B.pre
  have hown : s.vm.findClass RX9 = some m.cls := findClass_of_methodNamed B.named
  have hlocks := B.notSynchronized
  subst hsz
  have hD := hD0.self (sz := s.heap.size)
  generalize hAe : va_A (WM cI cZ cB a u) s.heap.size = A at hD hZ ⊢
  have hA : ∀ q : Nat, s.heap.size ≤ q → A q := fun q h => by rw [← hAe]; exact Or.inr h
  clear hAe
  have hS : va_S A s.heap s.heap [] := va_S.rf
  have hP : va_P D vwCl (WM cI cZ cB a u) s.heap := hP
  have hl := lv_entry ([.ref (a 45), .int kp]) (n := 5) (Nat.le_of_ble_eq_true rfl)
  rw [lg_entry_eq]
  generalize (lg_sl ([.ref (a 45), .int kp]) ++ List.replicate (5 - (lg_sl ([.ref (a 45), .int kp])).length) Slot.unset).toArray = ls at hl ⊢
  have hl : lv_has ls 5 [(0, .ref (a 45)), (1, .int kp)] := hl
  have hf := f_send_s u kp
  have i1 := hk0.inn (N := 4) hI.nK.2 (by omega)
  refine lv_aload_n hx hb dX9_send_0 rfl (lv_at hl 0 rfl) ?_
  refine va_get (D := D) (ci := 10) (v := .ref (a 41)) (C := RX9) (T := TX9) (N := 45) hx hb hts im_X9_send_X9 hown hE.1 hP 0 rfl rfl 41 (by decide) (hts (.fieldLink RX9 94 "RiverBridgesModel" "keeperAt" "[I") (by decide +kernel)) (fun _ h9 => h9) rfl dX9_send_1 ?_
  refine lv_iload_n hx hb dX9_send_4 rfl (lv_at hl 1 rfl) ?_
  refine lx_iald (v := u.2.2 41 kp.toNatClampNeg) hx hb hE.1 hP 27 0 rfl rfl (by assumption) (rfl) dX9_send_5 ?_
  refine lv_istore_n (lv' := [(2, .int (u.2.2 41 kp.toNatClampNeg)), (0, .ref (a 45)), (1, .int kp)]) hx hb dX9_send_6 rfl hl (by decide) rfl (fun ls hl => ?_)
  refine lv_iload_n hx hb dX9_send_7 rfl (lv_at hl 0 rfl) ?_
  refine lv_if_lt (tgt := 28) hx hb dX9_send_8 (by decide) (fun cl => ?_) (fun cl => ?_)
  · replace hf := hf.trans (if_pos cl)
    exact ss_vret () hx hb hr hlocks (by rw [hf]; exact hP) (by rw [hf]; exact hD) hS trivial (Nat.le_of_ble_eq_true rfl) (Nat.le_of_ble_eq_true rfl) dX9_send_28
  · replace hf := hf.trans (if_neg cl)
    have hw : ixN (u.2.2 41 kp.toNatClampNeg) nB := (hI.kA _ (hk0.at (by have := hI.nK.2; omega)).1).resolve_left (fun e9 => cl (by rw [e9]; decide))
    have i2 := hw.inn (N := 8) hI.nB.2 (by omega)
    refine lv_aload_n hx hb dX9_send_11 rfl (lv_at hl 1 rfl) ?_
    refine va_get (D := D) (ci := 10) (v := .ref (a 11)) (C := RX9) (T := TX9) (N := 45) hx hb hts im_X9_send_X9 hown hE.1 hP 0 rfl rfl 11 (by decide) (hts (.fieldLink RX9 32 "RiverBridgesModel" "state" "[I") (by decide +kernel)) (fun _ h9 => h9) rfl dX9_send_12 ?_
    refine lv_iload_n hx hb dX9_send_15 rfl (lv_at hl 0 rfl) ?_
    refine lx_iald (v := u.2.2 11 ((u.2.2 41 kp.toNatClampNeg).toNatClampNeg)) hx hb hE.1 hP 8 0 rfl rfl (by assumption) (rfl) dX9_send_16 ?_
    refine lv_if_ne (tgt := 28) hx hb dX9_send_17 (by decide) (fun c1 => ?_) (fun c1 => ?_)
    · replace hf := hf.trans (if_neg c1)
      exact ss_vret () hx hb hr hlocks (by rw [hf]; exact hP) (by rw [hf]; exact hD) hS trivial (Nat.le_of_ble_eq_true rfl) (Nat.le_of_ble_eq_true rfl) dX9_send_28
    · replace hf := hf.trans (if_pos c1)
      refine lv_aload_n hx hb dX9_send_20 rfl (lv_at hl 1 rfl) ?_
      refine lv_iload_n hx hb dX9_send_21 rfl (lv_at hl 0 rfl) ?_
      refine sf_calli (va_runV (As := [.int (u.2.2 41 kp.toNatClampNeg)]) (rest := []) ⟨hx, hb, hml, hown, hts⟩ (m_isWanted l D cI cZ cB cO cJ a0 s.heap.size a _ _ _ _ _  u (u.2.2 41 kp.toNatClampNeg) (hI)) (cwV 1 hts gX9_send_X9_isWanted rfl rfl rfl (by decide +kernel) ⟨Nat.le_of_ble_eq_true rfl, Nat.le_of_ble_eq_true rfl⟩) (preV_full hE hZ hA hS hP hD (va_recv hE.1 hP (ci := 10) (q0 := 0) rfl rfl)) rfl rfl hl.1 rfl (lv_room (Nat.le_of_ble_eq_true rfl)) dX9_send_22 ⟨Nat.le_of_ble_eq_true rfl, Nat.le_of_ble_eq_true rfl⟩) hP hD hS hA (fun r9 u9 H locs hw hP hD hS => ?_)
      subst hw
      have hP : va_P D vwCl (WM cI cZ cB a u) H := hP
      have hD : va_D A (WM cI cZ cB a u) := hD
      refine lv_if_eq (tgt := 29) hx hb dX9_send_25 (by decide) (fun c2 => ?_) (fun c2 => ?_)
      · replace hf := hf.trans (if_pos c2)
        refine lv_iconst (v := -1) hx hb dX9_send_29 (by decide) ?_
        refine lv_istore_n (lv' := [(3, .int (-1)), (2, .int (u.2.2 41 kp.toNatClampNeg)), (0, .ref (a 45)), (1, .int kp)]) hx hb dX9_send_30 rfl hl (by decide) rfl (fun ls hl => ?_)
        refine lv_iconst (v := 0) hx hb dX9_send_31 (by decide) ?_
        refine lv_istore (lv' := [(4, .int 0), (3, .int (-1)), (2, .int (u.2.2 41 kp.toNatClampNeg)), (0, .ref (a 45)), (1, .int kp)]) hx hb dX9_send_32 hl (by decide) rfl (fun ls hl => ?_)
        have hf_lp_send := hf
        refine ss_ind (J := fun n H locs ls => ∃ (x1 : Int32) (k : Nat), (k + n = 9) ∧ (k ≤ nB) ∧ (x1 = -1 ∨ ixN x1 nB) ∧ va_P D vwCl (WM cI cZ cB a u) H ∧ va_D A (WM cI cZ cB a u) ∧ va_S A s.heap H locs ∧ lv_has ls 5 [(3, .int x1), (4, .int (nI k)), (2, .int (u.2.2 41 kp.toNatClampNeg)), (0, .ref (a 45)), (1, .int kp)] ∧ lp_send u kp 9 (-1) 0 = lp_send u kp n x1 k) ?_ ?_ (9) _ _ _ ⟨(-1), 0, (rfl), (Nat.zero_le _), (Or.inl rfl), hP, hD, hS, (lv_sub hl [1, 0, 2, 3, 4] rfl), rfl⟩
        all_goals clear hf
        · intro H locs ls hJ
          obtain ⟨x1, k, hkn, hkw, hx1, hP, hD, hS, hl, hf⟩ := hJ
          have := hI.nB.2; omega
        · intro n_lp_send ih_lp_send H locs ls hJ
          obtain ⟨x1, k, hkn, hkw, hx1, hP, hD, hS, hl, hf⟩ := hJ
          replace hf := hf.trans (lp_send_s _ _ n_lp_send _ _)
          refine lv_iload hx hb dX9_send_34 (lv_at hl 1 rfl) ?_
          refine lv_aload_n hx hb dX9_send_36 rfl (lv_at hl 3 rfl) ?_
          refine va_get (D := D) (ci := 10) (v := .int (u.1 17)) (C := RX9) (T := TX9) (N := 45) hx hb hts im_X9_send_X9 hown hE.1 hP 0 rfl rfl 17 (by decide) (hts (.fieldLink RX9 119 "RiverBridgesModel" "bridges" "I") (by decide +kernel)) (fun _ h9 => h9) rfl dX9_send_37 ?_
          refine lv_icmp_ge (tgt := 92) hx hb dX9_send_40 (by decide) (fun ck => ?_) (fun ck => ?_)
          · replace hf := hf.trans (if_pos ck)
            have e90 : (lp_send u kp 9 (-1) 0) = x1 := by rw [hf]
            clear hf
            have hf := hf_lp_send
            try rw [e90] at hf
            clear ih_lp_send e90
            have hl : lv_has ls 5 [(3, .int x1), (2, .int (u.2.2 41 kp.toNatClampNeg)), (0, .ref (a 45)), (1, .int kp)] := lv_sub hl [0, 2, 3, 4] rfl
            refine lv_iload_n hx hb dX9_send_92 rfl (lv_at hl 0 rfl) ?_
            refine lv_if_ge (tgt := 97) hx hb dX9_send_93 (by decide) (fun c3 => ?_) (fun c3 => ?_)
            · replace hf := hf.trans (if_pos c3)
              refine lv_aload_n hx hb dX9_send_97 rfl (lv_at hl 2 rfl) ?_
              refine va_get (D := D) (ci := 10) (v := .ref (a 41)) (C := RX9) (T := TX9) (N := 45) hx hb hts im_X9_send_X9 hown hE.1 hP 0 rfl rfl 41 (by decide) (hts (.fieldLink RX9 94 "RiverBridgesModel" "keeperAt" "[I") (by decide +kernel)) (fun _ h9 => h9) rfl dX9_send_98 ?_
              refine lv_iload_n hx hb dX9_send_101 rfl (lv_at hl 3 rfl) ?_
              refine lv_iconst (v := -1) hx hb dX9_send_102 (by decide) ?_
              refine lx_iast (g := upd (u.2.2 41) kp.toNatClampNeg (-1)) hx hb hE.1 hP hD hS 27 0 rfl rfl (by assumption) (rfl) dX9_send_103 (fun H locs hP hD hS => ?_)
              have hP := va_P_eq (WM_a41 cI cZ cB a u kp.toNatClampNeg (-1)) hP
              have hD := va_D_eq (WM_a41 cI cZ cB a u kp.toNatClampNeg (-1)) hD
              refine lv_aload_n hx hb dX9_send_104 rfl (lv_at hl 2 rfl) ?_
              refine va_get (D := D) (ci := 10) (v := .ref (a 42)) (C := RX9) (T := TX9) (N := 45) hx hb hts im_X9_send_X9 hown hE.1 hP 0 rfl rfl 42 (by decide) (hts (.fieldLink RX9 97 "RiverBridgesModel" "keeperTo" "[I") (by decide +kernel)) (fun _ h9 => h9) rfl dX9_send_105 ?_
              refine lv_iload_n hx hb dX9_send_108 rfl (lv_at hl 3 rfl) ?_
              refine lv_iload_n hx hb dX9_send_109 rfl (lv_at hl 0 rfl) ?_
              refine lx_iast (g := upd (u.2.2 42) kp.toNatClampNeg x1) hx hb hE.1 hP hD hS 28 0 rfl rfl (by assumption) (rfl) dX9_send_110 (fun H locs hP hD hS => ?_)
              have hP := va_P_eq (WM_a42 cI cZ cB a (sa u 41 kp.toNatClampNeg (-1)) kp.toNatClampNeg x1) hP
              have hD := va_D_eq (WM_a42 cI cZ cB a (sa u 41 kp.toNatClampNeg (-1)) kp.toNatClampNeg x1) hD
              refine lv_aload_n hx hb dX9_send_111 rfl (lv_at hl 2 rfl) ?_
              refine va_get (D := D) (ci := 10) (v := .ref (a 43)) (C := RX9) (T := TX9) (N := 45) hx hb hts im_X9_send_X9 hown hE.1 hP 0 rfl rfl 43 (by decide) (hts (.fieldLink RX9 100 "RiverBridgesModel" "keeperDue" "[I") (by decide +kernel)) (fun _ h9 => h9) rfl dX9_send_112 ?_
              refine lv_iload_n hx hb dX9_send_115 rfl (lv_at hl 3 rfl) ?_
              refine lv_aload_n hx hb dX9_send_116 rfl (lv_at hl 2 rfl) ?_
              refine va_get (D := D) (ci := 10) (v := .int (u.1 18)) (C := RX9) (T := TX9) (N := 45) hx hb hts im_X9_send_X9 hown hE.1 hP 0 rfl rfl 18 (by decide) (hts (.fieldLink RX9 122 "RiverBridgesModel" "minute" "I") (by decide +kernel)) (fun _ h9 => h9) rfl dX9_send_117 ?_
              refine lv_aload_n hx hb dX9_send_120 rfl (lv_at hl 2 rfl) ?_
              refine va_get (D := D) (ci := 10) (v := .int (u.1 19)) (C := RX9) (T := TX9) (N := 45) hx hb hts im_X9_send_X9 hown hE.1 hP 0 rfl rfl 19 (by decide) (hts (.fieldLink RX9 50 "RiverBridgesModel" "legs" "I") (by decide +kernel)) (fun _ h9 => h9) rfl dX9_send_121 ?_
              refine lv_iload_n hx hb dX9_send_124 rfl (lv_at hl 1 rfl) ?_
              refine lv_iload_n hx hb dX9_send_125 rfl (lv_at hl 0 rfl) ?_
              refine sf_calli (va_runS (As := [.int (u.2.2 41 kp.toNatClampNeg), .int x1]) (rest := [.int (u.1 19), .int (u.1 18), .int kp, .ref (a 43)]) ⟨hx, hb, hml, hown, hts⟩ (m_far l D cI cZ cB cO cJ a0 H.size a  (sa (sa u 41 kp.toNatClampNeg (-1)) 42 kp.toNatClampNeg x1) (u.2.2 41 kp.toNatClampNeg) x1 ) (cwS 2 hts gX9_send_X9_far rfl rfl rfl (by decide +kernel) ⟨Nat.le_of_ble_eq_true rfl, Nat.le_of_ble_eq_true rfl⟩) (preS_full hE hZ hA hS hP hD) rfl rfl hl.1 rfl (lv_room (Nat.le_of_ble_eq_true rfl)) dX9_send_126 ⟨Nat.le_of_ble_eq_true rfl, Nat.le_of_ble_eq_true rfl⟩) hP hD hS hA (fun r9 u9 H locs hw hP hD hS => ?_)
              subst hw
              have hP : va_P D vwCl (WM cI cZ cB a (sa (sa u 41 kp.toNatClampNeg (-1)) 42 kp.toNatClampNeg x1)) H := hP
              have hD : va_D A (WM cI cZ cB a (sa (sa u 41 kp.toNatClampNeg (-1)) 42 kp.toNatClampNeg x1)) := hD
              refine lx_imul (v := (u.1 19) * (f_far (sa (sa u 41 kp.toNatClampNeg (-1)) 42 kp.toNatClampNeg x1) (u.2.2 41 kp.toNatClampNeg) x1)) hx hb (rfl) dX9_send_129 ?_
              refine lx_iadd (v := (u.1 18) + ((u.1 19) * (f_far (sa (sa u 41 kp.toNatClampNeg (-1)) 42 kp.toNatClampNeg x1) (u.2.2 41 kp.toNatClampNeg) x1))) hx hb (rfl) dX9_send_130 ?_
              refine lx_iast (g := upd (u.2.2 43) kp.toNatClampNeg ((u.1 18) + ((u.1 19) * (f_far (sa (sa u 41 kp.toNatClampNeg (-1)) 42 kp.toNatClampNeg x1) (u.2.2 41 kp.toNatClampNeg) x1)))) hx hb hE.1 hP hD hS 29 0 rfl rfl (by assumption) (rfl) dX9_send_131 (fun H locs hP hD hS => ?_)
              have hP := va_P_eq (WM_a43 cI cZ cB a (sa (sa u 41 kp.toNatClampNeg (-1)) 42 kp.toNatClampNeg x1) kp.toNatClampNeg ((u.1 18) + ((u.1 19) * (f_far (sa (sa u 41 kp.toNatClampNeg (-1)) 42 kp.toNatClampNeg x1) (u.2.2 41 kp.toNatClampNeg) x1)))) hP
              have hD := va_D_eq (WM_a43 cI cZ cB a (sa (sa u 41 kp.toNatClampNeg (-1)) 42 kp.toNatClampNeg x1) kp.toNatClampNeg ((u.1 18) + ((u.1 19) * (f_far (sa (sa u 41 kp.toNatClampNeg (-1)) 42 kp.toNatClampNeg x1) (u.2.2 41 kp.toNatClampNeg) x1)))) hD
              exact ss_vret () hx hb hr hlocks (by rw [hf]; exact hP) (by rw [hf]; exact hD) hS trivial (Nat.le_of_ble_eq_true rfl) (Nat.le_of_ble_eq_true rfl) dX9_send_132
            · replace hf := hf.trans (if_neg c3)
              exact ss_vret () hx hb hr hlocks (by rw [hf]; exact hP) (by rw [hf]; exact hD) hS trivial (Nat.le_of_ble_eq_true rfl) (Nat.le_of_ble_eq_true rfl) dX9_send_96
          · replace hf := hf.trans (if_neg ck)
            have hk : k < nB := nltI hI.nB.1 (by have := hI.nB.2; omega) (by omega) ck
            refine lv_aload_n hx hb dX9_send_43 rfl (lv_at hl 3 rfl) ?_
            refine lv_iload hx hb dX9_send_44 (lv_at hl 1 rfl) ?_
            refine sf_calli (va_runV (As := [.int (nI k)]) (rest := []) ⟨hx, hb, hml, hown, hts⟩ (m_isWanted l D cI cZ cB cO cJ a0 H.size a _ _ _ _ _  u (nI k) (hI)) (cwV 1 hts gX9_send_X9_isWanted rfl rfl rfl (by decide +kernel) ⟨Nat.le_of_ble_eq_true rfl, Nat.le_of_ble_eq_true rfl⟩) (preV_full hE hZ hA hS hP hD (va_recv hE.1 hP (ci := 10) (q0 := 0) rfl rfl)) rfl rfl hl.1 rfl (lv_room (Nat.le_of_ble_eq_true rfl)) dX9_send_46 ⟨Nat.le_of_ble_eq_true rfl, Nat.le_of_ble_eq_true rfl⟩) hP hD hS hA (fun r9 u9 H locs hw hP hD hS => ?_)
            subst hw
            have hP : va_P D vwCl (WM cI cZ cB a u) H := hP
            have hD : va_D A (WM cI cZ cB a u) := hD
            refine lv_if_eq (tgt := 86) hx hb dX9_send_49 (by decide) (fun c4 => ?_) (fun c4 => ?_)
            · replace hf := hf.trans (if_pos c4)
              refine lv_iinc (v := nI (k + 1)) (lv' := [(4, .int (nI (k + 1))), (3, .int x1), (2, .int (u.2.2 41 kp.toNatClampNeg)), (0, .ref (a 45)), (1, .int kp)]) hx hb dX9_send_86 hl (k := 1) rfl (by first | exact nI_add _ _ | rfl) (by decide) rfl (fun ls hl => ?_)
              refine lv_goto (tgt := 34) hx hb dX9_send_89 (by decide) ?_
              exact ih_lp_send _ _ _ ⟨x1, (k + 1), (by omega), (by omega), (by first | assumption | exact Or.inr ⟨k, hk, rfl⟩), hP, hD, hS, (lv_sub hl [1, 0, 2, 3, 4] rfl), hf⟩
            · replace hf := hf.trans (if_neg c4)
              refine lv_aload_n hx hb dX9_send_52 rfl (lv_at hl 3 rfl) ?_
              refine lv_iload hx hb dX9_send_53 (lv_at hl 1 rfl) ?_
              refine lv_iconst (v := 1) hx hb dX9_send_55 (by decide) ?_
              refine sf_calli (va_runV (As := [.int (nI k), .int 1]) (rest := []) ⟨hx, hb, hml, hown, hts⟩ (m_hasKeeper l D cI cZ cB cO cJ a0 H.size a _ _ _ _ _  u (nI k) 1 (hI)) (cwV 2 hts gX9_send_X9_hasKeeper rfl rfl rfl (by decide +kernel) ⟨Nat.le_of_ble_eq_true rfl, Nat.le_of_ble_eq_true rfl⟩) (preV_full hE hZ hA hS hP hD (va_recv hE.1 hP (ci := 10) (q0 := 0) rfl rfl)) rfl rfl hl.1 rfl (lv_room (Nat.le_of_ble_eq_true rfl)) dX9_send_56 ⟨Nat.le_of_ble_eq_true rfl, Nat.le_of_ble_eq_true rfl⟩) hP hD hS hA (fun r9 u9 H locs hw hP hD hS => ?_)
              subst hw
              have hP : va_P D vwCl (WM cI cZ cB a u) H := hP
              have hD : va_D A (WM cI cZ cB a u) := hD
              refine lv_if_eq (tgt := 65) hx hb dX9_send_59 (by decide) (fun c5 => ?_) (fun c5 => ?_)
              · replace hf := hf.trans (if_pos c5)
                refine lv_iload_n hx hb dX9_send_65 rfl (lv_at hl 0 rfl) ?_
                refine lv_if_lt (tgt := 83) hx hb dX9_send_66 (by decide) (fun c6 => ?_) (fun c6 => ?_)
                · replace hf := hf.trans (if_pos c6)
                  refine lv_iload hx hb dX9_send_83 (lv_at hl 1 rfl) ?_
                  refine lv_istore_n (lv' := [(3, .int (nI k)), (4, .int (nI k)), (2, .int (u.2.2 41 kp.toNatClampNeg)), (0, .ref (a 45)), (1, .int kp)]) hx hb dX9_send_85 rfl hl (by decide) rfl (fun ls hl => ?_)
                  refine lv_iinc (v := nI (k + 1)) (lv' := [(4, .int (nI (k + 1))), (3, .int (nI k)), (2, .int (u.2.2 41 kp.toNatClampNeg)), (0, .ref (a 45)), (1, .int kp)]) hx hb dX9_send_86 hl (k := 1) rfl (by first | exact nI_add _ _ | rfl) (by decide) rfl (fun ls hl => ?_)
                  refine lv_goto (tgt := 34) hx hb dX9_send_89 (by decide) ?_
                  exact ih_lp_send _ _ _ ⟨(nI k), (k + 1), (by omega), (by omega), (by first | assumption | exact Or.inr ⟨k, hk, rfl⟩), hP, hD, hS, (lv_sub hl [1, 0, 2, 3, 4] rfl), hf⟩
                · replace hf := hf.trans (if_neg c6)
                  refine lv_iload_n hx hb dX9_send_69 rfl (lv_at hl 2 rfl) ?_
                  refine lv_iload hx hb dX9_send_70 (lv_at hl 1 rfl) ?_
                  refine sf_calli (va_runS (As := [.int (u.2.2 41 kp.toNatClampNeg), .int (nI k)]) (rest := []) ⟨hx, hb, hml, hown, hts⟩ (m_far l D cI cZ cB cO cJ a0 H.size a  u (u.2.2 41 kp.toNatClampNeg) (nI k) ) (cwS 2 hts gX9_send_X9_far rfl rfl rfl (by decide +kernel) ⟨Nat.le_of_ble_eq_true rfl, Nat.le_of_ble_eq_true rfl⟩) (preS_full hE hZ hA hS hP hD) rfl rfl hl.1 rfl (lv_room (Nat.le_of_ble_eq_true rfl)) dX9_send_72 ⟨Nat.le_of_ble_eq_true rfl, Nat.le_of_ble_eq_true rfl⟩) hP hD hS hA (fun r9 u9 H locs hw hP hD hS => ?_)
                  subst hw
                  have hP : va_P D vwCl (WM cI cZ cB a u) H := hP
                  have hD : va_D A (WM cI cZ cB a u) := hD
                  refine lv_iload_n hx hb dX9_send_75 rfl (lv_at hl 2 rfl) ?_
                  refine lv_iload_n hx hb dX9_send_76 rfl (lv_at hl 0 rfl) ?_
                  refine sf_calli (va_runS (As := [.int (u.2.2 41 kp.toNatClampNeg), .int x1]) (rest := [.int (f_far u (u.2.2 41 kp.toNatClampNeg) (nI k))]) ⟨hx, hb, hml, hown, hts⟩ (m_far l D cI cZ cB cO cJ a0 H.size a  u (u.2.2 41 kp.toNatClampNeg) x1 ) (cwS 2 hts gX9_send_X9_far rfl rfl rfl (by decide +kernel) ⟨Nat.le_of_ble_eq_true rfl, Nat.le_of_ble_eq_true rfl⟩) (preS_full hE hZ hA hS hP hD) rfl rfl hl.1 rfl (lv_room (Nat.le_of_ble_eq_true rfl)) dX9_send_77 ⟨Nat.le_of_ble_eq_true rfl, Nat.le_of_ble_eq_true rfl⟩) hP hD hS hA (fun r9 u9 H locs hw hP hD hS => ?_)
                  subst hw
                  have hP : va_P D vwCl (WM cI cZ cB a u) H := hP
                  have hD : va_D A (WM cI cZ cB a u) := hD
                  refine lv_icmp_ge (tgt := 86) hx hb dX9_send_80 (by decide) (fun c7 => ?_) (fun c7 => ?_)
                  · replace hf := hf.trans (if_pos c7)
                    refine lv_iinc (v := nI (k + 1)) (lv' := [(4, .int (nI (k + 1))), (3, .int x1), (2, .int (u.2.2 41 kp.toNatClampNeg)), (0, .ref (a 45)), (1, .int kp)]) hx hb dX9_send_86 hl (k := 1) rfl (by first | exact nI_add _ _ | rfl) (by decide) rfl (fun ls hl => ?_)
                    refine lv_goto (tgt := 34) hx hb dX9_send_89 (by decide) ?_
                    exact ih_lp_send _ _ _ ⟨x1, (k + 1), (by omega), (by omega), (by first | assumption | exact Or.inr ⟨k, hk, rfl⟩), hP, hD, hS, (lv_sub hl [1, 0, 2, 3, 4] rfl), hf⟩
                  · replace hf := hf.trans (if_neg c7)
                    refine lv_iload hx hb dX9_send_83 (lv_at hl 1 rfl) ?_
                    refine lv_istore_n (lv' := [(3, .int (nI k)), (4, .int (nI k)), (2, .int (u.2.2 41 kp.toNatClampNeg)), (0, .ref (a 45)), (1, .int kp)]) hx hb dX9_send_85 rfl hl (by decide) rfl (fun ls hl => ?_)
                    refine lv_iinc (v := nI (k + 1)) (lv' := [(4, .int (nI (k + 1))), (3, .int (nI k)), (2, .int (u.2.2 41 kp.toNatClampNeg)), (0, .ref (a 45)), (1, .int kp)]) hx hb dX9_send_86 hl (k := 1) rfl (by first | exact nI_add _ _ | rfl) (by decide) rfl (fun ls hl => ?_)
                    refine lv_goto (tgt := 34) hx hb dX9_send_89 (by decide) ?_
                    exact ih_lp_send _ _ _ ⟨(nI k), (k + 1), (by omega), (by omega), (by first | assumption | exact Or.inr ⟨k, hk, rfl⟩), hP, hD, hS, (lv_sub hl [1, 0, 2, 3, 4] rfl), hf⟩
              · replace hf := hf.trans (if_neg c5)
                refine lv_goto (tgt := 86) hx hb dX9_send_62 (by decide) ?_
                refine lv_iinc (v := nI (k + 1)) (lv' := [(4, .int (nI (k + 1))), (3, .int x1), (2, .int (u.2.2 41 kp.toNatClampNeg)), (0, .ref (a 45)), (1, .int kp)]) hx hb dX9_send_86 hl (k := 1) rfl (by first | exact nI_add _ _ | rfl) (by decide) rfl (fun ls hl => ?_)
                refine lv_goto (tgt := 34) hx hb dX9_send_89 (by decide) ?_
                exact ih_lp_send _ _ _ ⟨x1, (k + 1), (by omega), (by omega), (by first | assumption | exact Or.inr ⟨k, hk, rfl⟩), hP, hD, hS, (lv_sub hl [1, 0, 2, 3, 4] rfl), hf⟩
      · replace hf := hf.trans (if_neg c2)
        exact ss_vret () hx hb hr hlocks (by rw [hf]; exact hP) (by rw [hf]; exact hD) hS trivial (Nat.le_of_ble_eq_true rfl) (Nat.le_of_ble_eq_true rfl) dX9_send_28
def f_through (u : RS) (sh : Int32) (b : Int32) : Int32 × RS := (if f_isShip (sg u 0 0) sh = 0 then (-1, (sg u 0 0)) else (if f_isBridge (sg u 0 0) b = 0 then (-1, (sg u 0 0)) else (u.2.2 38 (((8 * sh) + b).toNatClampNeg), (sg u 0 0))))
theorem f_through_s (u : RS) (sh : Int32) (b : Int32) : f_through u sh b = (if f_isShip (sg u 0 0) sh = 0 then (-1, (sg u 0 0)) else (if f_isBridge (sg u 0 0) b = 0 then (-1, (sg u 0 0)) else (u.2.2 38 (((8 * sh) + b).toNatClampNeg), (sg u 0 0)))) := rfl
theorem im_X9_through_X9 : ∀ w ∈ wsX90, w ∈ wsX9_through := fun _ h => List.mem_cons_of_mem _ (List.mem_append_right _ h)
set_option maxHeartbeats 400000 in
set_option maxRecDepth 100000 in
theorem m_through (l : Launch) (D : va_G) (cI cZ cB cO cJ : ClassId) (a0 sz : Nat) (a : Nat → Nat) (nB nS nK mi ln : Nat) (u : RS) (sh : Int32) (b : Int32) (hI : MI nB nS nK mi ln u) : Met l yX9_through wsX9_through ({ frames := 1, cells := 0, slots := 0, locals := 21 }) (Pcs D cI cZ cB cO cJ a0 [.ref (a 45), .int sh, .int b] (WM cI cZ cB a u) sz) (va_Qi (fun (r : Int32) (_ : Unit) => r = (f_through u sh b).1) (fun (_ : Unit) t => va_P D vwCl (WM cI cZ cB a (f_through u sh b).2) t.heap ∧ va_D (va_A (WM cI cZ cB a u) sz) (WM cI cZ cB a (f_through u sh b).2)) (va_A (WM cI cZ cB a u) sz)) 0 0 (va_A (WM cI cZ cB a u) sz) := by
  refine Met.ofW (cc := cX9_through) (maxL := 3) (ret := (some .int)) (by decide) rfl ?_
  intro p e s m args below meth c s₁ B hml hv
  obtain ⟨rfl, hsz, hP, hE, hD0, hZ⟩ := hv
  have hx := B.exec
  have hb := B.bytes
  have hr := B.returns
  have hts := atoms_spec (ws := wsX9_through) B.pre
  have hown : s.vm.findClass RX9 = some m.cls := findClass_of_methodNamed B.named
  have hlocks := B.notSynchronized
  subst hsz
  have hD := hD0.self (sz := s.heap.size)
  generalize hAe : va_A (WM cI cZ cB a u) s.heap.size = A at hD hZ ⊢
  have hA : ∀ q : Nat, s.heap.size ≤ q → A q := fun q h => by rw [← hAe]; exact Or.inr h
  clear hAe
  have hS : va_S A s.heap s.heap [] := va_S.rf
  have hP : va_P D vwCl (WM cI cZ cB a u) s.heap := hP
  have hl := lv_entry ([.ref (a 45), .int sh, .int b]) (n := 3) (Nat.le_of_ble_eq_true rfl)
  rw [lg_entry_eq]
  generalize (lg_sl ([.ref (a 45), .int sh, .int b]) ++ List.replicate (3 - (lg_sl ([.ref (a 45), .int sh, .int b])).length) Slot.unset).toArray = ls at hl ⊢
  have hl : lv_has ls 3 [(0, .ref (a 45)), (1, .int sh), (2, .int b)] := hl
  have hf := f_through_s u sh b
  refine lv_aload_n hx hb dX9_through_0 rfl (lv_at hl 0 rfl) ?_
  refine lv_iconst (v := 0) hx hb dX9_through_1 (by decide) ?_
  refine va_put (D := D) (ci := 10) (v := .int 0) (ty := .int) (C := RX9) (T := TX9) (N := 45) hx hb hts im_X9_through_X9 tyX9 tyX9_ok nmX9 hown hE.1 hP hD hS 0 rfl rfl 0 (by decide) (hts (.fieldLink RX9 103 "RiverBridgesModel" "thrown" "I") (by decide +kernel)) (fun _ h9 => h9) rfl (by decide +kernel) rfl rfl (Nat.le_of_ble_eq_true rfl) dX9_through_2 (fun H locs hP hD hS => ?_)
  have hP := va_P_eq (WM_g0 cI cZ cB a u 0) hP
  have hD := va_D_eq (WM_g0 cI cZ cB a u 0) hD
  refine lv_aload_n hx hb dX9_through_5 rfl (lv_at hl 0 rfl) ?_
  refine lv_iload_n hx hb dX9_through_6 rfl (lv_at hl 1 rfl) ?_
  refine sf_calli (va_runV (As := [.int sh]) (rest := []) ⟨hx, hb, hml, hown, hts⟩ (m_isShip l D cI cZ cB cO cJ a0 H.size a  (sg u 0 0) sh ) (cwV 1 hts gX9_through_X9_isShip rfl rfl rfl (by decide +kernel) ⟨Nat.le_of_ble_eq_true rfl, Nat.le_of_ble_eq_true rfl⟩) (preV_full hE hZ hA hS hP hD (va_recv hE.1 hP (ci := 10) (q0 := 0) rfl rfl)) rfl rfl hl.1 rfl (lv_room (Nat.le_of_ble_eq_true rfl)) dX9_through_7 ⟨Nat.le_of_ble_eq_true rfl, Nat.le_of_ble_eq_true rfl⟩) hP hD hS hA (fun r9 u9 H locs hw hP hD hS => ?_)
  subst hw
  have hP : va_P D vwCl (WM cI cZ cB a (sg u 0 0)) H := hP
  have hD : va_D A (WM cI cZ cB a (sg u 0 0)) := hD
  refine lv_if_eq (tgt := 35) hx hb dX9_through_10 (by decide) (fun c1s => ?_) (fun c1s => ?_)
  · replace hf := hf.trans (if_pos c1s)
    refine lv_iconst (v := -1) hx hb dX9_through_35 (by decide) ?_
    exact ss_iret () hx hb hr hlocks (by rw [hf]; exact hP) (by rw [hf]; exact hD) hS (by rw [hf]) (Nat.le_of_ble_eq_true rfl) (Nat.le_of_ble_eq_true rfl) dX9_through_36
  · replace hf := hf.trans (if_neg c1s)
    refine lv_aload_n hx hb dX9_through_13 rfl (lv_at hl 0 rfl) ?_
    refine lv_iload_n hx hb dX9_through_14 rfl (lv_at hl 2 rfl) ?_
    refine sf_calli (va_runV (As := [.int b]) (rest := []) ⟨hx, hb, hml, hown, hts⟩ (m_isBridge l D cI cZ cB cO cJ a0 H.size a  (sg u 0 0) b ) (cwV 1 hts gX9_through_X9_isBridge rfl rfl rfl (by decide +kernel) ⟨Nat.le_of_ble_eq_true rfl, Nat.le_of_ble_eq_true rfl⟩) (preV_full hE hZ hA hS hP hD (va_recv hE.1 hP (ci := 10) (q0 := 0) rfl rfl)) rfl rfl hl.1 rfl (lv_room (Nat.le_of_ble_eq_true rfl)) dX9_through_15 ⟨Nat.le_of_ble_eq_true rfl, Nat.le_of_ble_eq_true rfl⟩) hP hD hS hA (fun r9 u9 H locs hw hP hD hS => ?_)
    subst hw
    have hP : va_P D vwCl (WM cI cZ cB a (sg u 0 0)) H := hP
    have hD : va_D A (WM cI cZ cB a (sg u 0 0)) := hD
    refine lv_if_eq (tgt := 35) hx hb dX9_through_18 (by decide) (fun c2b => ?_) (fun c2b => ?_)
    · replace hf := hf.trans (if_pos c2b)
      refine lv_iconst (v := -1) hx hb dX9_through_35 (by decide) ?_
      exact ss_iret () hx hb hr hlocks (by rw [hf]; exact hP) (by rw [hf]; exact hD) hS (by rw [hf]) (Nat.le_of_ble_eq_true rfl) (Nat.le_of_ble_eq_true rfl) dX9_through_36
    · replace hf := hf.trans (if_neg c2b)
      refine lv_aload_n hx hb dX9_through_21 rfl (lv_at hl 0 rfl) ?_
      refine va_get (D := D) (ci := 10) (v := .ref (a 38)) (C := RX9) (T := TX9) (N := 45) hx hb hts im_X9_through_X9 hown hE.1 hP 0 rfl rfl 38 (by decide) (hts (.fieldLink RX9 88 "RiverBridgesModel" "through" "[I") (by decide +kernel)) (fun _ h9 => h9) rfl dX9_through_22 ?_
      refine lv_bipush (v := 8) hx hb dX9_through_25 (by decide) ?_
      refine lv_iload_n hx hb dX9_through_27 rfl (lv_at hl 1 rfl) ?_
      refine lx_imul (v := 8 * sh) hx hb (rfl) dX9_through_28 ?_
      refine lv_iload_n hx hb dX9_through_29 rfl (lv_at hl 2 rfl) ?_
      refine lx_iadd (v := (8 * sh) + b) hx hb (rfl) dX9_through_30 ?_
      refine lx_iald (v := u.2.2 38 (((8 * sh) + b).toNatClampNeg)) hx hb hE.1 hP 25 0 rfl rfl (ix_mul8 (isShip_ix (MI_sg hI (by decide)) c1s) hI.nS.2 ((isBridge_ix (MI_sg hI (by decide)) c2b).mono hI.nB.2)) (rfl) dX9_through_31 ?_
      refine lv_goto (tgt := 36) hx hb dX9_through_32 (by decide) ?_
      exact ss_iret () hx hb hr hlocks (by rw [hf]; exact hP) (by rw [hf]; exact hD) hS (by rw [hf]) (Nat.le_of_ble_eq_true rfl) (Nat.le_of_ble_eq_true rfl) dX9_through_36
