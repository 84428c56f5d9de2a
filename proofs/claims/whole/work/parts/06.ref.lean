
theorem bI_nt {b : Bool} (h : bI b = 0) : ¬ b = true := by rw [bI_0.mp h]; decide
def rN (r : Int32) : Nat := r.toNatClampNeg
theorem isRg_nI {r : Int32} (h : isRg r = true) : r = nI (rN r) ∧ rN r < 8 := by
  obtain ⟨j, h1, h2⟩ := isRg_of h
  subst h2
  have e : rN (nI j) = j := nI_clamp (by omega)
  rw [e]
  exact ⟨rfl, h1⟩
theorem MS.ne {w : mW} {o : Nat} {ad : Nat → Nat} (h : MS w o ad) {k k' : Nat} (hk : k ∈ ([101, 104, 105, 106, 107, 108, 109, 110, 112, 113, 116, 117, 119, 120] : List Nat)) (hk' : k' ∈ ([101, 104, 105, 106, 107, 108, 109, 110, 112, 113, 116, 117, 119, 120] : List Nat)) (hne : k ≠ k') : ad k ≠ ad k' := fun q => hne (h.2.2 k k' hk hk' q)
theorem sw_out {x : Int32} {hi : Nat} (hh : hi < 2 ^ 31) (h : ∀ k, k ≤ hi → ¬ x = nI k) : x.toInt < 0 ∨ (hi : Int) < x.toInt := by
  by_cases h1 : x.toInt < 0
  · exact Or.inl h1
  · refine Or.inr ?_
    obtain ⟨j, hj, rfl⟩ := nI_of (x := x) (by rw [Int32.lt_iff_toInt_lt, Int32.toInt_zero]; exact h1)
    rw [nI_toInt hj]
    by_cases h2 : j ≤ hi
    · exact absurd rfl (h j h2)
    · omega
def cntM (w : mW) (o : Nat) (x : Int32) : Int32 := if x = 0 then gI w 102 o else if x = 1 then gI w 103 o else if x = 2 then gI w 121 o else if x = 3 then gI w 118 o else if x = 4 then gI w 115 o else if x = 5 then gI w 122 o else -1
set_option maxRecDepth 100000 in
set_option maxHeartbeats 4000000 in
theorem k_M_number (l : Launch) (w : mW) (o : Nat) (ad : Nat → Nat) (hM : MS w o ad) (r x : Int32) : mMet l y_M_number c_M_number 3 (some .boolean) 1 0 0 [vR (some o), vI r, vI x] w (fun v w' => if isRg r = true then v = some (vI 1) ∧ w' = xJ w (ad 101) (rN r) (Int32.toInt64 x &&& 4294967295) else v = some (vI 0) ∧ w = w') := by
  refine mMet.of (by decide) (Nat.le_of_ble_eq_true rfl) ?_
  intro p e s m args below meth c D dA A X
  show mV p l e (mRm 1 0 0) s m args below meth c D dA A 3 w 0 0 _ 0 [(0, vR (some o)), (1, vI r), (2, vI x)] []
  refine mv_iload_n X 1 d_M_number_0 rfl ?_
  refine mv_calls X [vI r] [] (k_M_isRegister l w r) d_M_number_1 cs_M_137 ⟨Nat.le_of_ble_eq_true rfl, Nat.le_of_ble_eq_true rfl⟩ ⟨Nat.le_of_ble_eq_true rfl, Nat.le_of_ble_eq_true rfl⟩ rfl (Nat.le_of_ble_eq_true rfl) (fun v1 w1 hp1 => ?_)
  obtain ⟨rfl, rfl⟩ := hp1
  refine mv_if_ne (tgt := 9) X d_M_number_4 (by decide) (fun h4 => ?_) (fun h4 => ?_)
  · refine mv_aload_n X 0 d_M_number_9 rfl ?_
    refine mv_getr (w := w) X d_M_number_10 f_M_7 (mIs.one hM.1) hM.r101 ?_
    refine mv_iload_n X 1 d_M_number_13 rfl ?_
    refine mv_iload_n X 2 d_M_number_14 rfl ?_
    refine mv_i2l (v := Int32.toInt64 x) X d_M_number_15 rfl ?_
    refine mv_ldc2 (v := 4294967295) X d_M_number_16 (mA (by decide +kernel) (by decide +kernel)) ?_
    refine mv_land X d_M_number_19 ?_
    refine mv_last X d_M_number_20 rfl rfl hM.k101 ((isRg_nI (bI_ne.mp h4)).1) ((isRg_nI (bI_ne.mp h4)).2) (by decide) ?_
    refine mv_iconst (v := 1) X d_M_number_21 (by decide) ?_
    exact mv_ret_i (Post := _) X d_M_number_22 rfl (by rfl) (Nat.le_of_ble_eq_true rfl) (Nat.le_of_ble_eq_true rfl) (by rw [if_pos (bI_ne.mp h4)]; exact ⟨rfl, rfl⟩)
  · refine mv_iconst (v := 0) X d_M_number_7 (by decide) ?_
    exact mv_ret_i (Post := _) X d_M_number_8 rfl (by rfl) (Nat.le_of_ble_eq_true rfl) (Nat.le_of_ble_eq_true rfl) (by rw [if_neg (bI_nt h4)]; exact ⟨rfl, rfl⟩)
set_option maxRecDepth 100000 in
set_option maxHeartbeats 4000000 in
theorem k_M_copy (l : Launch) (w : mW) (o : Nat) (ad : Nat → Nat) (hM : MS w o ad) (r q : Int32) : mMet l y_M_copy c_M_copy 3 (some .boolean) 1 0 0 [vR (some o), vI r, vI q] w (fun v w' => if isRg r = true ∧ (q = -1 ∨ isRg q = true) then v = some (vI 1) ∧ w' = xJ w (ad 101) (rN r) (if q = -1 then 12884901888 else aJ w (ad 101) (rN q)) else v = some (vI 0) ∧ w = w') := by
  refine mMet.of (by decide) (Nat.le_of_ble_eq_true rfl) ?_
  intro p e s m args below meth c D dA A X
  show mV p l e (mRm 1 0 0) s m args below meth c D dA A 3 w 0 0 _ 0 [(0, vR (some o)), (1, vI r), (2, vI q)] []
  refine mv_iload_n X 1 d_M_copy_0 rfl ?_
  refine mv_calls X [vI r] [] (k_M_isRegister l w r) d_M_copy_1 cs_M_137 ⟨Nat.le_of_ble_eq_true rfl, Nat.le_of_ble_eq_true rfl⟩ ⟨Nat.le_of_ble_eq_true rfl, Nat.le_of_ble_eq_true rfl⟩ rfl (Nat.le_of_ble_eq_true rfl) (fun v1 w1 hp1 => ?_)
  obtain ⟨rfl, rfl⟩ := hp1
  refine mv_if_eq (tgt := 19) X d_M_copy_4 (by decide) (fun h4 => ?_) (fun h4 => ?_)
  · refine mv_iconst (v := 0) X d_M_copy_19 (by decide) ?_
    exact mv_ret_i (Post := _) X d_M_copy_20 rfl (by rfl) (Nat.le_of_ble_eq_true rfl) (Nat.le_of_ble_eq_true rfl) (by rw [if_neg (fun z => bI_nt h4 z.1)]; exact ⟨rfl, rfl⟩)
  · refine mv_iload_n X 2 d_M_copy_7 rfl ?_
    refine mv_iconst (v := (-1)) X d_M_copy_8 (by decide) ?_
    refine mv_icmp_eq (tgt := 21) X d_M_copy_9 (by decide) (fun h9 => ?_) (fun h9 => ?_)
    · refine mv_aload_n X 0 d_M_copy_21 rfl ?_
      refine mv_getr (w := w) X d_M_copy_22 f_M_7 (mIs.one hM.1) hM.r101 ?_
      refine mv_iload_n X 1 d_M_copy_25 rfl ?_
      refine mv_iload_n X 2 d_M_copy_26 rfl ?_
      refine mv_iconst (v := (-1)) X d_M_copy_27 (by decide) ?_
      refine mv_icmp_ne (tgt := 37) X d_M_copy_28 (by decide) (fun h28 => ?_) (fun h28 => ?_)
      · exact absurd h9 h28
      · refine mv_ldc2 (v := 12884901888) X d_M_copy_31 (mA (by decide +kernel) (by decide +kernel)) ?_
        refine mv_goto (tgt := 43) X d_M_copy_34 (by decide) ?_
        refine mv_last X d_M_copy_43 rfl rfl hM.k101 ((isRg_nI (bI_ne.mp h4)).1) ((isRg_nI (bI_ne.mp h4)).2) (by decide) ?_
        refine mv_iconst (v := 1) X d_M_copy_44 (by decide) ?_
        exact mv_ret_i (Post := _) X d_M_copy_45 rfl (by rfl) (Nat.le_of_ble_eq_true rfl) (Nat.le_of_ble_eq_true rfl) (by rw [if_pos ⟨bI_ne.mp h4, Or.inl h9⟩, if_pos h9]; exact ⟨rfl, rfl⟩)
    · refine mv_iload_n X 2 d_M_copy_12 rfl ?_
      refine mv_calls X [vI q] [] (k_M_isRegister l w q) d_M_copy_13 cs_M_137 ⟨Nat.le_of_ble_eq_true rfl, Nat.le_of_ble_eq_true rfl⟩ ⟨Nat.le_of_ble_eq_true rfl, Nat.le_of_ble_eq_true rfl⟩ rfl (Nat.le_of_ble_eq_true rfl) (fun v13 w13 hp13 => ?_)
      obtain ⟨rfl, rfl⟩ := hp13
      refine mv_if_ne (tgt := 21) X d_M_copy_16 (by decide) (fun h16 => ?_) (fun h16 => ?_)
      · refine mv_aload_n X 0 d_M_copy_21 rfl ?_
        refine mv_getr (w := w) X d_M_copy_22 f_M_7 (mIs.one hM.1) hM.r101 ?_
        refine mv_iload_n X 1 d_M_copy_25 rfl ?_
        refine mv_iload_n X 2 d_M_copy_26 rfl ?_
        refine mv_iconst (v := (-1)) X d_M_copy_27 (by decide) ?_
        refine mv_icmp_ne (tgt := 37) X d_M_copy_28 (by decide) (fun h28 => ?_) (fun h28 => ?_)
        · refine mv_aload_n X 0 d_M_copy_37 rfl ?_
          refine mv_getr (w := w) X d_M_copy_38 f_M_7 (mIs.one hM.1) hM.r101 ?_
          refine mv_iload_n X 2 d_M_copy_41 rfl ?_
          refine mv_lald (x := aJ w (ad 101) (rN q)) X d_M_copy_42 rfl rfl hM.k101 ((isRg_nI (bI_ne.mp h16)).1) ((isRg_nI (bI_ne.mp h16)).2) (by decide) rfl ?_
          refine mv_last X d_M_copy_43 rfl rfl hM.k101 ((isRg_nI (bI_ne.mp h4)).1) ((isRg_nI (bI_ne.mp h4)).2) (by decide) ?_
          refine mv_iconst (v := 1) X d_M_copy_44 (by decide) ?_
          exact mv_ret_i (Post := _) X d_M_copy_45 rfl (by rfl) (Nat.le_of_ble_eq_true rfl) (Nat.le_of_ble_eq_true rfl) (by rw [if_pos ⟨bI_ne.mp h4, Or.inr (bI_ne.mp h16)⟩, if_neg h9]; exact ⟨rfl, rfl⟩)
        · exact absurd h28 h9
      · refine mv_iconst (v := 0) X d_M_copy_19 (by decide) ?_
        exact mv_ret_i (Post := _) X d_M_copy_20 rfl (by rfl) (Nat.le_of_ble_eq_true rfl) (Nat.le_of_ble_eq_true rfl) (by rw [if_neg (fun z => z.2.elim h9 (bI_nt h16))]; exact ⟨rfl, rfl⟩)
set_option maxRecDepth 100000 in
set_option maxHeartbeats 4000000 in
theorem k_M_same (l : Launch) (w : mW) (o : Nat) (ad : Nat → Nat) (hM : MS w o ad) (r q : Int32) : mMet l y_M_same c_M_same 3 (some .int) 1 0 0 [vR (some o), vI r, vI q] w (fun v w' => v = some (vI (if isRg r = true ∧ isRg q = true then (if aJ w (ad 101) (rN r) = aJ w (ad 101) (rN q) then 1 else 0) else -1)) ∧ w = w') := by
  refine mMet.of (by decide) (Nat.le_of_ble_eq_true rfl) ?_
  intro p e s m args below meth c D dA A X
  show mV p l e (mRm 1 0 0) s m args below meth c D dA A 3 w 0 0 _ 0 [(0, vR (some o)), (1, vI r), (2, vI q)] []
  refine mv_iload_n X 1 d_M_same_0 rfl ?_
  refine mv_calls X [vI r] [] (k_M_isRegister l w r) d_M_same_1 cs_M_137 ⟨Nat.le_of_ble_eq_true rfl, Nat.le_of_ble_eq_true rfl⟩ ⟨Nat.le_of_ble_eq_true rfl, Nat.le_of_ble_eq_true rfl⟩ rfl (Nat.le_of_ble_eq_true rfl) (fun v1 w1 hp1 => ?_)
  obtain ⟨rfl, rfl⟩ := hp1
  refine mv_if_eq (tgt := 14) X d_M_same_4 (by decide) (fun h4 => ?_) (fun h4 => ?_)
  · refine mv_iconst (v := (-1)) X d_M_same_14 (by decide) ?_
    refine mv_goto (tgt := 39) X d_M_same_15 (by decide) ?_
    exact mv_ret_i (Post := _) X d_M_same_39 rfl rfl (Nat.le_of_ble_eq_true rfl) (Nat.le_of_ble_eq_true rfl) (by refine ⟨?_, rfl⟩; rw [if_neg (fun z => bI_nt h4 z.1)])
  · refine mv_iload_n X 2 d_M_same_7 rfl ?_
    refine mv_calls X [vI q] [] (k_M_isRegister l w q) d_M_same_8 cs_M_137 ⟨Nat.le_of_ble_eq_true rfl, Nat.le_of_ble_eq_true rfl⟩ ⟨Nat.le_of_ble_eq_true rfl, Nat.le_of_ble_eq_true rfl⟩ rfl (Nat.le_of_ble_eq_true rfl) (fun v8 w8 hp8 => ?_)
    obtain ⟨rfl, rfl⟩ := hp8
    refine mv_if_ne (tgt := 18) X d_M_same_11 (by decide) (fun h11 => ?_) (fun h11 => ?_)
    · refine mv_aload_n X 0 d_M_same_18 rfl ?_
      refine mv_getr (w := w) X d_M_same_19 f_M_7 (mIs.one hM.1) hM.r101 ?_
      refine mv_iload_n X 1 d_M_same_22 rfl ?_
      refine mv_lald (x := aJ w (ad 101) (rN r)) X d_M_same_23 rfl rfl hM.k101 ((isRg_nI (bI_ne.mp h4)).1) ((isRg_nI (bI_ne.mp h4)).2) (by decide) rfl ?_
      refine mv_aload_n X 0 d_M_same_24 rfl ?_
      refine mv_getr (w := w) X d_M_same_25 f_M_7 (mIs.one hM.1) hM.r101 ?_
      refine mv_iload_n X 2 d_M_same_28 rfl ?_
      refine mv_lald (x := aJ w (ad 101) (rN q)) X d_M_same_29 rfl rfl hM.k101 ((isRg_nI (bI_ne.mp h11)).1) ((isRg_nI (bI_ne.mp h11)).2) (by decide) rfl ?_
      refine mv_lcmp X d_M_same_30 ?_
      refine mv_if_ne (tgt := 38) X d_M_same_31 (by decide) (fun h31 => ?_) (fun h31 => ?_)
      · refine mv_iconst (v := 0) X d_M_same_38 (by decide) ?_
        exact mv_ret_i (Post := _) X d_M_same_39 rfl rfl (Nat.le_of_ble_eq_true rfl) (Nat.le_of_ble_eq_true rfl) (by rw [lg_cmp_eq] at h31; refine ⟨?_, rfl⟩; rw [if_pos ⟨bI_ne.mp h4, bI_ne.mp h11⟩, if_neg h31])
      · refine mv_iconst (v := 1) X d_M_same_34 (by decide) ?_
        refine mv_goto (tgt := 39) X d_M_same_35 (by decide) ?_
        exact mv_ret_i (Post := _) X d_M_same_39 rfl rfl (Nat.le_of_ble_eq_true rfl) (Nat.le_of_ble_eq_true rfl) (by rw [lg_cmp_eq] at h31; refine ⟨?_, rfl⟩; rw [if_pos ⟨bI_ne.mp h4, bI_ne.mp h11⟩, if_pos h31])
    · refine mv_iconst (v := (-1)) X d_M_same_14 (by decide) ?_
      refine mv_goto (tgt := 39) X d_M_same_15 (by decide) ?_
      exact mv_ret_i (Post := _) X d_M_same_39 rfl rfl (Nat.le_of_ble_eq_true rfl) (Nat.le_of_ble_eq_true rfl) (by refine ⟨?_, rfl⟩; rw [if_neg (fun z => bI_nt h11 z.2)])
set_option maxRecDepth 100000 in
set_option maxHeartbeats 4000000 in
theorem k_M_count (l : Launch) (w : mW) (o : Nat) (ad : Nat → Nat) (hM : MS w o ad) (x : Int32) : mMet l y_M_count c_M_count 2 (some .int) 0 0 0 [vR (some o), vI x] w (fun v w' => v = some (vI (cntM w o x)) ∧ w = w') := by
  refine mMet.of (by decide) (Nat.le_of_ble_eq_true rfl) ?_
  intro p e s m args below meth c D dA A X
  show mV p l e (mRm 0 0 0) s m args below meth c D dA A 2 w 0 0 _ 0 [(0, vR (some o)), (1, vI x)] []
  refine mv_iload_n X 1 d_M_count_0 rfl ?_
  by_cases hs0 : x = 0
  · subst hs0
    refine mv_tabIn (tgt := 40) (off := 39) X d_M_count_1 (by decide) (by decide) (by decide) (by decide) ?_
    refine mv_aload_n X 0 d_M_count_40 rfl ?_
    refine mv_geti (w := w) X d_M_count_41 f_M_70 (mIs.one hM.1) rfl ?_
    exact mv_ret_i (Post := _) X d_M_count_44 rfl rfl (Nat.le_of_ble_eq_true rfl) (Nat.le_of_ble_eq_true rfl) (⟨rfl, rfl⟩)
  by_cases hs1 : x = 1
  · subst hs1
    refine mv_tabIn (tgt := 45) (off := 44) X d_M_count_1 (by decide) (by decide) (by decide) (by decide) ?_
    refine mv_aload_n X 0 d_M_count_45 rfl ?_
    refine mv_geti (w := w) X d_M_count_46 f_M_83 (mIs.one hM.1) rfl ?_
    exact mv_ret_i (Post := _) X d_M_count_49 rfl rfl (Nat.le_of_ble_eq_true rfl) (Nat.le_of_ble_eq_true rfl) (⟨rfl, rfl⟩)
  by_cases hs2 : x = 2
  · subst hs2
    refine mv_tabIn (tgt := 50) (off := 49) X d_M_count_1 (by decide) (by decide) (by decide) (by decide) ?_
    refine mv_aload_n X 0 d_M_count_50 rfl ?_
    refine mv_geti (w := w) X d_M_count_51 f_M_124 (mIs.one hM.1) rfl ?_
    exact mv_ret_i (Post := _) X d_M_count_54 rfl rfl (Nat.le_of_ble_eq_true rfl) (Nat.le_of_ble_eq_true rfl) (⟨rfl, rfl⟩)
  by_cases hs3 : x = 3
  · subst hs3
    refine mv_tabIn (tgt := 55) (off := 54) X d_M_count_1 (by decide) (by decide) (by decide) (by decide) ?_
    refine mv_aload_n X 0 d_M_count_55 rfl ?_
    refine mv_geti (w := w) X d_M_count_56 f_M_113 (mIs.one hM.1) rfl ?_
    exact mv_ret_i (Post := _) X d_M_count_59 rfl rfl (Nat.le_of_ble_eq_true rfl) (Nat.le_of_ble_eq_true rfl) (⟨rfl, rfl⟩)
  by_cases hs4 : x = 4
  · subst hs4
    refine mv_tabIn (tgt := 60) (off := 59) X d_M_count_1 (by decide) (by decide) (by decide) (by decide) ?_
    refine mv_aload_n X 0 d_M_count_60 rfl ?_
    refine mv_geti (w := w) X d_M_count_61 f_M_107 (mIs.one hM.1) rfl ?_
    exact mv_ret_i (Post := _) X d_M_count_64 rfl rfl (Nat.le_of_ble_eq_true rfl) (Nat.le_of_ble_eq_true rfl) (⟨rfl, rfl⟩)
  by_cases hs5 : x = 5
  · subst hs5
    refine mv_tabIn (tgt := 65) (off := 64) X d_M_count_1 (by decide) (by decide) (by decide) (by decide) ?_
    refine mv_aload_n X 0 d_M_count_65 rfl ?_
    refine mv_geti (w := w) X d_M_count_66 f_M_165 (mIs.one hM.1) rfl ?_
    exact mv_ret_i (Post := _) X d_M_count_69 rfl rfl (Nat.le_of_ble_eq_true rfl) (Nat.le_of_ble_eq_true rfl) (⟨rfl, rfl⟩)
  refine mv_tabOut (tgt := 70) X d_M_count_1 (sw_out (hi := 5) (by decide) (fun k hk => by rcases (show k = 0 ∨ k = 1 ∨ k = 2 ∨ k = 3 ∨ k = 4 ∨ k = 5 by omega) with rfl | rfl | rfl | rfl | rfl | rfl <;> assumption)) (by decide) ?_
  refine mv_iconst (v := (-1)) X d_M_count_70 (by decide) ?_
  exact mv_ret_i (Post := _) X d_M_count_71 rfl rfl (Nat.le_of_ble_eq_true rfl) (Nat.le_of_ble_eq_true rfl) (by refine ⟨?_, rfl⟩; unfold cntM; rw [if_neg hs0, if_neg hs1, if_neg hs2, if_neg hs3, if_neg hs4, if_neg hs5])
set_option maxRecDepth 100000 in
set_option maxHeartbeats 4000000 in
theorem k_M_register (l : Launch) (w : mW) (o : Nat) (ad : Nat → Nat) (hM : MS w o ad) (r q : Int32) (rg qn : Nat) (hrg : gI w 115 o = nI rg) (hqn : gI w 118 o = nI qn) (hsum : rg + qn ≤ 60) : mMet l y_M_register c_M_register 3 (some .boolean) 1 0 0 [vR (some o), vI r, vI q] w (fun v w' => if isRg r = true ∧ isRg q = true ∧ isOb (aJ w (ad 101) (rN r)) = true ∧ ¬ gI w 115 o + gI w 118 o = 60 then v = some (vI 1) ∧ w' = sI (xJ (xJ w (ad 116) rg (aJ w (ad 101) (rN r))) (ad 117) rg (aJ w (ad 101) (rN q))) 115 o (nI rg + 1) else v = some (vI 0) ∧ w = w') := by
  refine mMet.of (by decide) (Nat.le_of_ble_eq_true rfl) ?_
  intro p e s m args below meth c D dA A X
  show mV p l e (mRm 1 0 0) s m args below meth c D dA A 3 w 0 0 _ 0 [(0, vR (some o)), (1, vI r), (2, vI q)] []
  refine mv_iload_n X 1 d_M_register_0 rfl ?_
  refine mv_calls X [vI r] [] (k_M_isRegister l w r) d_M_register_1 cs_M_137 ⟨Nat.le_of_ble_eq_true rfl, Nat.le_of_ble_eq_true rfl⟩ ⟨Nat.le_of_ble_eq_true rfl, Nat.le_of_ble_eq_true rfl⟩ rfl (Nat.le_of_ble_eq_true rfl) (fun v1 w1 hp1 => ?_)
  obtain ⟨rfl, rfl⟩ := hp1
  refine mv_if_eq (tgt := 40) X d_M_register_4 (by decide) (fun h4 => ?_) (fun h4 => ?_)
  · refine mv_iconst (v := 0) X d_M_register_40 (by decide) ?_
    exact mv_ret_i (Post := _) X d_M_register_41 rfl (by rfl) (Nat.le_of_ble_eq_true rfl) (Nat.le_of_ble_eq_true rfl) (by rw [if_neg (fun z => bI_nt h4 z.1)]; exact ⟨rfl, rfl⟩)
  · refine mv_iload_n X 2 d_M_register_7 rfl ?_
    refine mv_calls X [vI q] [] (k_M_isRegister l w q) d_M_register_8 cs_M_137 ⟨Nat.le_of_ble_eq_true rfl, Nat.le_of_ble_eq_true rfl⟩ ⟨Nat.le_of_ble_eq_true rfl, Nat.le_of_ble_eq_true rfl⟩ rfl (Nat.le_of_ble_eq_true rfl) (fun v8 w8 hp8 => ?_)
    obtain ⟨rfl, rfl⟩ := hp8
    refine mv_if_eq (tgt := 40) X d_M_register_11 (by decide) (fun h11 => ?_) (fun h11 => ?_)
    · refine mv_iconst (v := 0) X d_M_register_40 (by decide) ?_
      exact mv_ret_i (Post := _) X d_M_register_41 rfl (by rfl) (Nat.le_of_ble_eq_true rfl) (Nat.le_of_ble_eq_true rfl) (by rw [if_neg (fun z => bI_nt h11 z.2.1)]; exact ⟨rfl, rfl⟩)
    · refine mv_aload_n X 0 d_M_register_14 rfl ?_
      refine mv_getr (w := w) X d_M_register_15 f_M_7 (mIs.one hM.1) hM.r101 ?_
      refine mv_iload_n X 1 d_M_register_18 rfl ?_
      refine mv_lald (x := aJ w (ad 101) (rN r)) X d_M_register_19 rfl rfl hM.k101 ((isRg_nI (bI_ne.mp h4)).1) ((isRg_nI (bI_ne.mp h4)).2) (by decide) rfl ?_
      refine mv_calls X [vJ (aJ w (ad 101) (rN r))] [] (k_M_isObject l w (aJ w (ad 101) (rN r))) d_M_register_20 cs_M_62 ⟨Nat.le_of_ble_eq_true rfl, Nat.le_of_ble_eq_true rfl⟩ ⟨Nat.le_of_ble_eq_true rfl, Nat.le_of_ble_eq_true rfl⟩ rfl (Nat.le_of_ble_eq_true rfl) (fun v20 w20 hp20 => ?_)
      obtain ⟨rfl, rfl⟩ := hp20
      refine mv_if_eq (tgt := 40) X d_M_register_23 (by decide) (fun h23 => ?_) (fun h23 => ?_)
      · refine mv_iconst (v := 0) X d_M_register_40 (by decide) ?_
        exact mv_ret_i (Post := _) X d_M_register_41 rfl (by rfl) (Nat.le_of_ble_eq_true rfl) (Nat.le_of_ble_eq_true rfl) (by rw [if_neg (fun z => bI_nt h23 z.2.2.1)]; exact ⟨rfl, rfl⟩)
      · refine mv_aload_n X 0 d_M_register_26 rfl ?_
        refine mv_geti (w := w) X d_M_register_27 f_M_107 (mIs.one hM.1) hrg ?_
        refine mv_aload_n X 0 d_M_register_30 rfl ?_
        refine mv_geti (w := w) X d_M_register_31 f_M_113 (mIs.one hM.1) hqn ?_
        refine mv_iadd X d_M_register_34 ?_
        refine mv_bipush (v := 60) X d_M_register_35 (by decide) ?_
        refine mv_icmp_ne (tgt := 42) X d_M_register_37 (by decide) (fun h37 => ?_) (fun h37 => ?_)
        · have hlt : rg < 60 := by
            have h9 : ¬ rg + qn = 60 := fun z => h37 (by rw [nI_add, z]; rfl)
            omega
          refine mv_aload_n X 0 d_M_register_42 rfl ?_
          refine mv_getr (w := w) X d_M_register_43 f_M_42 (mIs.one hM.1) hM.r116 ?_
          refine mv_aload_n X 0 d_M_register_46 rfl ?_
          refine mv_geti (w := w) X d_M_register_47 f_M_107 (mIs.one hM.1) hrg ?_
          refine mv_aload_n X 0 d_M_register_50 rfl ?_
          refine mv_getr (w := w) X d_M_register_51 f_M_7 (mIs.one hM.1) hM.r101 ?_
          refine mv_iload_n X 1 d_M_register_54 rfl ?_
          refine mv_lald (x := aJ w (ad 101) (rN r)) X d_M_register_55 rfl rfl hM.k101 ((isRg_nI (bI_ne.mp h4)).1) ((isRg_nI (bI_ne.mp h4)).2) (by decide) rfl ?_
          refine mv_last X d_M_register_56 rfl rfl hM.k116 rfl hlt (by decide) ?_
          refine mv_aload_n X 0 d_M_register_57 rfl ?_
          refine mv_getr (w := (xJ w (ad 116) rg (aJ w (ad 101) (rN r)))) X d_M_register_58 f_M_45 (mIs.one hM.1) hM.r117 ?_
          refine mv_aload_n X 0 d_M_register_61 rfl ?_
          refine mv_geti (w := (xJ w (ad 116) rg (aJ w (ad 101) (rN r)))) X d_M_register_62 f_M_107 (mIs.one hM.1) hrg ?_
          refine mv_aload_n X 0 d_M_register_65 rfl ?_
          refine mv_getr (w := (xJ w (ad 116) rg (aJ w (ad 101) (rN r)))) X d_M_register_66 f_M_7 (mIs.one hM.1) hM.r101 ?_
          refine mv_iload_n X 2 d_M_register_69 rfl ?_
          refine mv_lald (x := aJ w (ad 101) (rN q)) X d_M_register_70 rfl rfl hM.k101 ((isRg_nI (bI_ne.mp h11)).1) ((isRg_nI (bI_ne.mp h11)).2) (by decide) (aJ_xJ_ne _ _ _ _ (hM.ne (by decide) (by decide) (by decide))) ?_
          refine mv_last X d_M_register_71 rfl rfl hM.k117 rfl hlt (by decide) ?_
          refine mv_aload_n X 0 d_M_register_72 rfl ?_
          refine mv_aload_n X 0 d_M_register_73 rfl ?_
          refine mv_geti (w := (xJ (xJ w (ad 116) rg (aJ w (ad 101) (rN r))) (ad 117) rg (aJ w (ad 101) (rN q)))) X d_M_register_74 f_M_107 (mIs.one hM.1) hrg ?_
          refine mv_iconst (v := 1) X d_M_register_77 (by decide) ?_
          refine mv_iadd X d_M_register_78 ?_
          refine mv_puti X d_M_register_79 f_M_107 (mIs.one hM.1) rfl rfl ?_
          refine mv_iconst (v := 1) X d_M_register_82 (by decide) ?_
          exact mv_ret_i (Post := _) X d_M_register_83 rfl (by rfl) (Nat.le_of_ble_eq_true rfl) (Nat.le_of_ble_eq_true rfl) (by rw [if_pos ⟨bI_ne.mp h4, bI_ne.mp h11, bI_ne.mp h23, by rw [hrg, hqn]; exact h37⟩]; exact ⟨rfl, rfl⟩)
        · refine mv_iconst (v := 0) X d_M_register_40 (by decide) ?_
          exact mv_ret_i (Post := _) X d_M_register_41 rfl (by rfl) (Nat.le_of_ble_eq_true rfl) (Nat.le_of_ble_eq_true rfl) (by rw [if_neg (fun z => z.2.2.2 (by rw [hrg, hqn]; exact h37))]; exact ⟨rfl, rfl⟩)
