
def ob (i : Nat) : Int64 := 25769803776 ||| Int32.toInt64 (nI i)
theorem ob_all : ∀ i, i < 1700 → (ob i).toInt32 = nI i ∧ isOb (ob i) = true ∧ ¬ ob i = -1 := by decide +kernel
theorem lt_many {kk n : Nat} {p : Prop} (d : Decidable p) (hk : kk < 2 ^ 31) (hn : n < 2 ^ 31) (h : nI kk < (if p then 0 else nI n)) : ¬ p ∧ kk < n := by
  by_cases hp : p
  · rw [if_pos hp] at h
    exact absurd h (nI_pos hk)
  · rw [if_neg hp] at h
    exact ⟨hp, (nI_ltI hk hn).mp h⟩
/-- the queue moves up by one, n places of it -/
def qs (w : mW) (ad : Nat → Nat) : Nat → mW
  | 0 => w
  | n + 1 => xJ (xJ (qs w ad n) (ad 119) n (aJ (qs w ad n) (ad 119) (n + 1))) (ad 120) n (aJ (qs w ad n) (ad 120) (n + 1))
theorem qs_K (w : mW) (ad : Nat → Nat) (n : Nat) : gK (qs w ad n) = gK w := by
  induction n with
  | zero => rfl
  | succ n ih => exact ih
theorem qs_R (w : mW) (ad : Nat → Nat) (n : Nat) : gR (qs w ad n) = gR w := by
  induction n with
  | zero => rfl
  | succ n ih => exact ih
theorem qs_I (w : mW) (ad : Nat → Nat) (n : Nat) : gI (qs w ad n) = gI w := by
  induction n with
  | zero => rfl
  | succ n ih => exact ih
theorem MS.to {w w' : mW} {o : Nat} {ad : Nat → Nat} (h : MS w o ad) (hK : gK w' = gK w) (hR : gR w' = gR w) : MS w' o ad := by
  unfold MS at h ⊢
  rw [hK, hR]
  exact h
set_option maxRecDepth 100000 in
set_option maxHeartbeats 4000000 in
theorem k_M_get (l : Launch) (w : mW) (o : Nat) (ad : Nat → Nat) (hM : MS w o ad) (r q k : Int32) (j : Nat) (Lc : List Nat) (hLc : Lc.length < 2 ^ 31) (hj : isRg q = true → isOb (aJ w (ad 101) (rN q)) = true → ((aJ w (ad 101) (rN q)).toInt32 = nI j ∧ j < 1700) ∧ lkI (aI w (ad 113)) 5100 (aI w (ad 106) j) Lc ∧ aI w (ad 105) j = nI Lc.length) : mMet l y_M_get c_M_get 4 (some .boolean) 2 0 0 [vR (some o), vI r, vI q, vI k] w (fun v w' => if isRg r = true ∧ isRg q = true ∧ isOb (aJ w (ad 101) (rN q)) = true ∧ ¬ k < 0 ∧ k < (if aI w (ad 104) j = 4 then 0 else aI w (ad 105) j) then v = some (vI 1) ∧ w' = xJ w (ad 101) (rN r) (aJ w (ad 112) ((Lc[rN k]?).getD 0)) else v = some (vI 0) ∧ w = w') := by
  refine mMet.of (by decide) (Nat.le_of_ble_eq_true rfl) ?_
  intro p e s m args below meth c D dA A X
  show mV p l e (mRm 2 0 0) s m args below meth c D dA A 4 w 0 0 _ 0 [(0, vR (some o)), (1, vI r), (2, vI q), (3, vI k)] []
  refine mv_iload_n X 1 d_M_get_0 rfl ?_
  refine mv_calls X [vI r] [] (k_M_isRegister l w r) d_M_get_1 cs_M_137 ⟨Nat.le_of_ble_eq_true rfl, Nat.le_of_ble_eq_true rfl⟩ ⟨Nat.le_of_ble_eq_true rfl, Nat.le_of_ble_eq_true rfl⟩ rfl (Nat.le_of_ble_eq_true rfl) (fun v1 w1 hp1 => ?_)
  obtain ⟨rfl, rfl⟩ := hp1
  refine mv_if_eq (tgt := 44) X d_M_get_4 (by decide) (fun h4 => ?_) (fun h4 => ?_)
  · refine mv_iconst (v := 0) X d_M_get_44 (by decide) ?_
    exact mv_ret_i (Post := _) X d_M_get_45 rfl (by rfl) (Nat.le_of_ble_eq_true rfl) (Nat.le_of_ble_eq_true rfl) (by rw [if_neg (fun z => bI_nt h4 z.1)]; exact ⟨rfl, rfl⟩)
  · refine mv_iload_n X 2 d_M_get_7 rfl ?_
    refine mv_calls X [vI q] [] (k_M_isRegister l w q) d_M_get_8 cs_M_137 ⟨Nat.le_of_ble_eq_true rfl, Nat.le_of_ble_eq_true rfl⟩ ⟨Nat.le_of_ble_eq_true rfl, Nat.le_of_ble_eq_true rfl⟩ rfl (Nat.le_of_ble_eq_true rfl) (fun v8 w8 hp8 => ?_)
    obtain ⟨rfl, rfl⟩ := hp8
    refine mv_if_eq (tgt := 44) X d_M_get_11 (by decide) (fun h11 => ?_) (fun h11 => ?_)
    · refine mv_iconst (v := 0) X d_M_get_44 (by decide) ?_
      exact mv_ret_i (Post := _) X d_M_get_45 rfl (by rfl) (Nat.le_of_ble_eq_true rfl) (Nat.le_of_ble_eq_true rfl) (by rw [if_neg (fun z => bI_nt h11 z.2.1)]; exact ⟨rfl, rfl⟩)
    · refine mv_aload_n X 0 d_M_get_14 rfl ?_
      refine mv_getr (w := w) X d_M_get_15 f_M_7 (mIs.one hM.1) hM.r101 ?_
      refine mv_iload_n X 2 d_M_get_18 rfl ?_
      refine mv_lald (x := aJ w (ad 101) (rN q)) X d_M_get_19 rfl rfl hM.k101 ((isRg_nI (bI_ne.mp h11)).1) ((isRg_nI (bI_ne.mp h11)).2) (by decide) rfl ?_
      refine mv_calls X [vJ (aJ w (ad 101) (rN q))] [] (k_M_isObject l w (aJ w (ad 101) (rN q))) d_M_get_20 cs_M_62 ⟨Nat.le_of_ble_eq_true rfl, Nat.le_of_ble_eq_true rfl⟩ ⟨Nat.le_of_ble_eq_true rfl, Nat.le_of_ble_eq_true rfl⟩ rfl (Nat.le_of_ble_eq_true rfl) (fun v20 w20 hp20 => ?_)
      obtain ⟨rfl, rfl⟩ := hp20
      refine mv_if_eq (tgt := 44) X d_M_get_23 (by decide) (fun h23 => ?_) (fun h23 => ?_)
      · refine mv_iconst (v := 0) X d_M_get_44 (by decide) ?_
        exact mv_ret_i (Post := _) X d_M_get_45 rfl (by rfl) (Nat.le_of_ble_eq_true rfl) (Nat.le_of_ble_eq_true rfl) (by rw [if_neg (fun z => bI_nt h23 z.2.2.1)]; exact ⟨rfl, rfl⟩)
      · obtain ⟨hj1, hch, hmy⟩ := hj (bI_ne.mp h11) (bI_ne.mp h23)
        refine mv_iload_n X 3 d_M_get_26 rfl ?_
        refine mv_if_lt (tgt := 44) X d_M_get_27 (by decide) (fun h27 => ?_) (fun h27 => ?_)
        · refine mv_iconst (v := 0) X d_M_get_44 (by decide) ?_
          exact mv_ret_i (Post := _) X d_M_get_45 rfl (by rfl) (Nat.le_of_ble_eq_true rfl) (Nat.le_of_ble_eq_true rfl) (by rw [if_neg (fun z => z.2.2.2.1 h27)]; exact ⟨rfl, rfl⟩)
        · obtain ⟨kk, hkk, rfl⟩ := nI_of h27
          refine mv_iload_n X 3 d_M_get_30 rfl ?_
          refine mv_aload_n X 0 d_M_get_31 rfl ?_
          refine mv_aload_n X 0 d_M_get_32 rfl ?_
          refine mv_getr (w := w) X d_M_get_33 f_M_7 (mIs.one hM.1) hM.r101 ?_
          refine mv_iload_n X 2 d_M_get_36 rfl ?_
          refine mv_lald (x := aJ w (ad 101) (rN q)) X d_M_get_37 rfl rfl hM.k101 ((isRg_nI (bI_ne.mp h11)).1) ((isRg_nI (bI_ne.mp h11)).2) (by decide) rfl ?_
          refine mv_callv X [vJ (aJ w (ad 101) (rN q))] [vI (nI kk)] (k_M_shown l w o ad hM (aJ w (ad 101) (rN q)) j hj1) d_M_get_38 cv_M_150 hM.1 ⟨Nat.le_of_ble_eq_true rfl, Nat.le_of_ble_eq_true rfl⟩ ⟨Nat.le_of_ble_eq_true rfl, Nat.le_of_ble_eq_true rfl⟩ rfl (Nat.le_of_ble_eq_true rfl) (fun v38 w38 hp38 => ?_)
          obtain ⟨rfl, rfl⟩ := hp38
          refine mv_icmp_lt (tgt := 46) X d_M_get_41 (by decide) (fun h41 => ?_) (fun h41 => ?_)
          · have h41b := h41
            rw [hmy] at h41b
            obtain ⟨hk4, hlt⟩ := lt_many _ hkk hLc h41b
            refine mv_aload_n X 0 d_M_get_46 rfl ?_
            refine mv_getr (w := w) X d_M_get_47 f_M_7 (mIs.one hM.1) hM.r101 ?_
            refine mv_iload_n X 1 d_M_get_50 rfl ?_
            refine mv_aload_n X 0 d_M_get_51 rfl ?_
            refine mv_aload_n X 0 d_M_get_52 rfl ?_
            refine mv_getr (w := w) X d_M_get_53 f_M_7 (mIs.one hM.1) hM.r101 ?_
            refine mv_iload_n X 2 d_M_get_56 rfl ?_
            refine mv_lald (x := aJ w (ad 101) (rN q)) X d_M_get_57 rfl rfl hM.k101 ((isRg_nI (bI_ne.mp h11)).1) ((isRg_nI (bI_ne.mp h11)).2) (by decide) rfl ?_
            refine mv_iload_n X 3 d_M_get_58 rfl ?_
            refine mv_callv X [vJ (aJ w (ad 101) (rN q)), vI (nI kk)] [vI r, vR (some (ad 101))] (k_M_field l w o ad hM (aJ w (ad 101) (rN q)) j kk hj1 Lc hch hlt hkk) d_M_get_59 cv_M_98 hM.1 ⟨Nat.le_of_ble_eq_true rfl, Nat.le_of_ble_eq_true rfl⟩ ⟨Nat.le_of_ble_eq_true rfl, Nat.le_of_ble_eq_true rfl⟩ rfl (Nat.le_of_ble_eq_true rfl) (fun v59 w59 hp59 => ?_)
            obtain ⟨rfl, rfl⟩ := hp59
            refine mv_last X d_M_get_62 rfl rfl hM.k101 ((isRg_nI (bI_ne.mp h4)).1) ((isRg_nI (bI_ne.mp h4)).2) (by decide) ?_
            refine mv_iconst (v := 1) X d_M_get_63 (by decide) ?_
            exact mv_ret_i (Post := _) X d_M_get_64 rfl (by rfl) (Nat.le_of_ble_eq_true rfl) (Nat.le_of_ble_eq_true rfl) (by rw [if_pos ⟨bI_ne.mp h4, bI_ne.mp h11, bI_ne.mp h23, h27, h41⟩]; rw [show rN (nI kk) = kk from nI_clamp hkk]; exact ⟨rfl, rfl⟩)
          · refine mv_iconst (v := 0) X d_M_get_44 (by decide) ?_
            exact mv_ret_i (Post := _) X d_M_get_45 rfl (by rfl) (Nat.le_of_ble_eq_true rfl) (Nat.le_of_ble_eq_true rfl) (by rw [if_neg (fun z => h41 z.2.2.2.2)]; exact ⟨rfl, rfl⟩)
set_option maxRecDepth 100000 in
set_option maxHeartbeats 4000000 in
theorem k_M_next (l : Launch) (w : mW) (o : Nat) (ad : Nat → Nat) (hM : MS w o ad) (r q : Int32) (qn : Nat) (hqn : gI w 118 o = nI qn) (hq60 : qn ≤ 60) : mMet l y_M_next c_M_next 4 (some .boolean) 1 0 0 [vR (some o), vI r, vI q] w (fun v w' => if ¬ gI w 118 o = 0 ∧ isRg r = true ∧ isRg q = true ∧ ¬ r = q then v = some (vI 1) ∧ w' = qs (sI (xJ (xJ w (ad 101) (rN r) (aJ w (ad 119) 0)) (ad 101) (rN q) (aJ w (ad 120) 0)) 118 o (nI qn - 1)) ad (qn - 1) else v = some (vI 0) ∧ w = w') := by
  refine mMet.of (by decide) (Nat.le_of_ble_eq_true rfl) ?_
  intro p e s m args below meth c D dA A X
  show mV p l e (mRm 1 0 0) s m args below meth c D dA A 4 w 0 0 _ 0 [(0, vR (some o)), (1, vI r), (2, vI q)] []
  refine mv_aload_n X 0 d_M_next_0 rfl ?_
  refine mv_geti (w := w) X d_M_next_1 f_M_113 (mIs.one hM.1) hqn ?_
  refine mv_if_eq (tgt := 26) X d_M_next_4 (by decide) (fun h4 => ?_) (fun h4 => ?_)
  · refine mv_iconst (v := 0) X d_M_next_26 (by decide) ?_
    exact mv_ret_i (Post := _) X d_M_next_27 rfl (by rfl) (Nat.le_of_ble_eq_true rfl) (Nat.le_of_ble_eq_true rfl) (by rw [if_neg (fun z => z.1 (by rw [hqn]; exact h4))]; exact ⟨rfl, rfl⟩)
  · have hq0 : 0 < qn := by
      rcases Nat.eq_zero_or_pos qn with z | z
      · subst z; exact absurd rfl h4
      · exact z
    refine mv_iload_n X 1 d_M_next_7 rfl ?_
    refine mv_calls X [vI r] [] (k_M_isRegister l w r) d_M_next_8 cs_M_137 ⟨Nat.le_of_ble_eq_true rfl, Nat.le_of_ble_eq_true rfl⟩ ⟨Nat.le_of_ble_eq_true rfl, Nat.le_of_ble_eq_true rfl⟩ rfl (Nat.le_of_ble_eq_true rfl) (fun v8 w8 hp8 => ?_)
    obtain ⟨rfl, rfl⟩ := hp8
    refine mv_if_eq (tgt := 26) X d_M_next_11 (by decide) (fun h11 => ?_) (fun h11 => ?_)
    · refine mv_iconst (v := 0) X d_M_next_26 (by decide) ?_
      exact mv_ret_i (Post := _) X d_M_next_27 rfl (by rfl) (Nat.le_of_ble_eq_true rfl) (Nat.le_of_ble_eq_true rfl) (by rw [if_neg (fun z => bI_nt h11 z.2.1)]; exact ⟨rfl, rfl⟩)
    · refine mv_iload_n X 2 d_M_next_14 rfl ?_
      refine mv_calls X [vI q] [] (k_M_isRegister l w q) d_M_next_15 cs_M_137 ⟨Nat.le_of_ble_eq_true rfl, Nat.le_of_ble_eq_true rfl⟩ ⟨Nat.le_of_ble_eq_true rfl, Nat.le_of_ble_eq_true rfl⟩ rfl (Nat.le_of_ble_eq_true rfl) (fun v15 w15 hp15 => ?_)
      obtain ⟨rfl, rfl⟩ := hp15
      refine mv_if_eq (tgt := 26) X d_M_next_18 (by decide) (fun h18 => ?_) (fun h18 => ?_)
      · refine mv_iconst (v := 0) X d_M_next_26 (by decide) ?_
        exact mv_ret_i (Post := _) X d_M_next_27 rfl (by rfl) (Nat.le_of_ble_eq_true rfl) (Nat.le_of_ble_eq_true rfl) (by rw [if_neg (fun z => bI_nt h18 z.2.2.1)]; exact ⟨rfl, rfl⟩)
      · refine mv_iload_n X 1 d_M_next_21 rfl ?_
        refine mv_iload_n X 2 d_M_next_22 rfl ?_
        refine mv_icmp_ne (tgt := 28) X d_M_next_23 (by decide) (fun h23 => ?_) (fun h23 => ?_)
        · refine mv_aload_n X 0 d_M_next_28 rfl ?_
          refine mv_getr (w := w) X d_M_next_29 f_M_7 (mIs.one hM.1) hM.r101 ?_
          refine mv_iload_n X 1 d_M_next_32 rfl ?_
          refine mv_aload_n X 0 d_M_next_33 rfl ?_
          refine mv_getr (w := w) X d_M_next_34 f_M_48 (mIs.one hM.1) hM.r119 ?_
          refine mv_iconst (v := 0) X d_M_next_37 (by decide) ?_
          refine mv_lald (x := aJ w (ad 119) 0) X d_M_next_38 rfl rfl hM.k119 rfl (by decide) (by decide) rfl ?_
          refine mv_last X d_M_next_39 rfl rfl hM.k101 ((isRg_nI (bI_ne.mp h11)).1) ((isRg_nI (bI_ne.mp h11)).2) (by decide) ?_
          refine mv_aload_n X 0 d_M_next_40 rfl ?_
          refine mv_getr (w := (xJ w (ad 101) (rN r) (aJ w (ad 119) 0))) X d_M_next_41 f_M_7 (mIs.one hM.1) hM.r101 ?_
          refine mv_iload_n X 2 d_M_next_44 rfl ?_
          refine mv_aload_n X 0 d_M_next_45 rfl ?_
          refine mv_getr (w := (xJ w (ad 101) (rN r) (aJ w (ad 119) 0))) X d_M_next_46 f_M_51 (mIs.one hM.1) hM.r120 ?_
          refine mv_iconst (v := 0) X d_M_next_49 (by decide) ?_
          refine mv_lald (x := aJ w (ad 120) 0) X d_M_next_50 rfl rfl hM.k120 rfl (by decide) (by decide) (aJ_xJ_ne _ _ _ _ (hM.ne (by decide) (by decide) (by decide))) ?_
          refine mv_last X d_M_next_51 rfl rfl hM.k101 ((isRg_nI (bI_ne.mp h18)).1) ((isRg_nI (bI_ne.mp h18)).2) (by decide) ?_
          refine mv_aload_n X 0 d_M_next_52 rfl ?_
          refine mv_aload_n X 0 d_M_next_53 rfl ?_
          refine mv_geti (w := (xJ (xJ w (ad 101) (rN r) (aJ w (ad 119) 0)) (ad 101) (rN q) (aJ w (ad 120) 0))) X d_M_next_54 f_M_113 (mIs.one hM.1) hqn ?_
          refine mv_iconst (v := 1) X d_M_next_57 (by decide) ?_
          refine mv_isub X d_M_next_58 ?_
          refine mv_puti X d_M_next_59 f_M_113 (mIs.one hM.1) rfl rfl ?_
          refine mv_iconst (v := 0) X d_M_next_62 (by decide) ?_
          refine mv_istore_n (lv' := [(3, vI 0), (0, vR (some o)), (1, vI r), (2, vI q)]) X d_M_next_63 (by decide) rfl ?_
          have hW1 : gI (sI (xJ (xJ w (ad 101) (rN r) (aJ w (ad 119) 0)) (ad 101) (rN q) (aJ w (ad 120) 0)) 118 o (nI qn - 1)) 118 o = nI (qn - 1) := by rw [gI_sI_eq]; obtain ⟨u, rfl⟩ : ∃ u, qn = u + 1 := ⟨qn - 1, by omega⟩; exact nI_pred u
          have hM1 : MS (sI (xJ (xJ w (ad 101) (rN r) (aJ w (ad 119) 0)) (ad 101) (rN q) (aJ w (ad 120) 0)) 118 o (nI qn - 1)) o ad := hM.to rfl rfl
          generalize hWe : sI (xJ (xJ w (ad 101) (rN r) (aJ w (ad 119) 0)) (ad 101) (rN q) (aJ w (ad 120) 0)) 118 o (nI qn - 1) = W1 at hW1 hM1 ⊢
          have key : ∀ (n i : Nat), n + i = qn - 1 → mV p l e (mRm 1 0 0) s m args below meth c D dA A 4 (qs W1 ad i) 0 0 (MQ below (mQ D dA A (fun v w' => v = some (vI 1) ∧ w' = qs W1 ad (qn - 1))) args s 0 0 A) 64 [(3, vI (nI i)), (0, vR (some o)), (1, vI r), (2, vI q)] [] := by
            intro n
            induction n with
            | zero =>
              intro i hn
              have hM2 : MS (qs W1 ad i) o ad := hM1.to (qs_K _ _ _) (qs_R _ _ _)
              have hq2 : gI (qs W1 ad i) 118 o = nI (qn - 1) := by rw [qs_I]; exact hW1
              refine mv_iload_n X 0 d_M_next_64 rfl ?_
              refine mv_aload_n X 1 d_M_next_65 rfl ?_
              refine mv_geti (w := (qs W1 ad i)) X d_M_next_66 f_M_113 (mIs.one hM2.1) hq2 ?_
              refine mv_icmp_ge (tgt := 106) X d_M_next_69 (by decide) (fun h69 => ?_) (fun h69 => ?_)
              · refine mv_iconst (v := 1) X d_M_next_106 (by decide) ?_
                exact mv_ret_i (Post := _) X d_M_next_107 rfl (by rfl) (Nat.le_of_ble_eq_true rfl) (Nat.le_of_ble_eq_true rfl) (⟨rfl, by rw [show i = qn - 1 by omega]⟩)
              · exact absurd (nI_le (show qn - 1 ≤ i by omega) (by omega)) h69
            | succ n ih =>
              intro i hn
              have hM2 : MS (qs W1 ad i) o ad := hM1.to (qs_K _ _ _) (qs_R _ _ _)
              have hq2 : gI (qs W1 ad i) 118 o = nI (qn - 1) := by rw [qs_I]; exact hW1
              refine mv_iload_n X 0 d_M_next_64 rfl ?_
              refine mv_aload_n X 1 d_M_next_65 rfl ?_
              refine mv_geti (w := (qs W1 ad i)) X d_M_next_66 f_M_113 (mIs.one hM2.1) hq2 ?_
              refine mv_icmp_ge (tgt := 106) X d_M_next_69 (by decide) (fun h69 => ?_) (fun h69 => ?_)
              · exact absurd h69 (nI_ge (show i < qn - 1 by omega) (by omega))
              · refine mv_aload_n X 1 d_M_next_72 rfl ?_
                refine mv_getr (w := (qs W1 ad i)) X d_M_next_73 f_M_48 (mIs.one hM2.1) hM2.r119 ?_
                refine mv_iload_n X 0 d_M_next_76 rfl ?_
                refine mv_aload_n X 1 d_M_next_77 rfl ?_
                refine mv_getr (w := (qs W1 ad i)) X d_M_next_78 f_M_48 (mIs.one hM2.1) hM2.r119 ?_
                refine mv_iload_n X 0 d_M_next_81 rfl ?_
                refine mv_iconst (v := 1) X d_M_next_82 (by decide) ?_
                refine mv_iadd X d_M_next_83 ?_
                refine mv_lald (x := aJ (qs W1 ad i) (ad 119) (i + 1)) X d_M_next_84 rfl rfl hM2.k119 (nI_1 i) (by omega) (by decide) rfl ?_
                refine mv_last X d_M_next_85 rfl rfl hM2.k119 rfl (by omega) (by decide) ?_
                refine mv_aload_n X 1 d_M_next_86 rfl ?_
                refine mv_getr (w := (xJ (qs W1 ad i) (ad 119) i (aJ (qs W1 ad i) (ad 119) (i + 1)))) X d_M_next_87 f_M_51 (mIs.one hM2.1) hM2.r120 ?_
                refine mv_iload_n X 0 d_M_next_90 rfl ?_
                refine mv_aload_n X 1 d_M_next_91 rfl ?_
                refine mv_getr (w := (xJ (qs W1 ad i) (ad 119) i (aJ (qs W1 ad i) (ad 119) (i + 1)))) X d_M_next_92 f_M_51 (mIs.one hM2.1) hM2.r120 ?_
                refine mv_iload_n X 0 d_M_next_95 rfl ?_
                refine mv_iconst (v := 1) X d_M_next_96 (by decide) ?_
                refine mv_iadd X d_M_next_97 ?_
                refine mv_lald (x := aJ (qs W1 ad i) (ad 120) (i + 1)) X d_M_next_98 rfl rfl hM2.k120 (nI_1 i) (by omega) (by decide) (aJ_xJ_ne _ _ _ _ (hM.ne (by decide) (by decide) (by decide))) ?_
                refine mv_last X d_M_next_99 rfl rfl hM2.k120 rfl (by omega) (by decide) ?_
                refine mv_iinc (v := nI (i + 1)) (lv' := [(3, vI (nI (i + 1))), (0, vR (some o)), (1, vI r), (2, vI q)]) X 0 d_M_next_100 rfl (nI_1 i) (by decide) rfl ?_
                refine mv_goto (tgt := 64) X d_M_next_103 (by decide) ?_
                exact ih (i + 1) (by omega)
          have h0 := key (qn - 1) 0 (by omega)
          have hPe : (fun (v : Option tV) w' => v = some (vI 1) ∧ w' = qs W1 ad (qn - 1)) = (fun v w' => if ¬ gI w 118 o = 0 ∧ isRg r = true ∧ isRg q = true ∧ ¬ r = q then v = some (vI 1) ∧ w' = qs (W1) ad (qn - 1) else v = some (vI 0) ∧ w = w') := by
            funext v w'
            rw [if_pos ⟨by rw [hqn]; exact h4, bI_ne.mp h11, bI_ne.mp h18, h23⟩]
          rw [hPe] at h0
          exact h0
        · refine mv_iconst (v := 0) X d_M_next_26 (by decide) ?_
          exact mv_ret_i (Post := _) X d_M_next_27 rfl (by rfl) (Nat.le_of_ble_eq_true rfl) (Nat.le_of_ble_eq_true rfl) (by rw [if_neg (fun z => z.2.2.2 h23)]; exact ⟨rfl, rfl⟩)
