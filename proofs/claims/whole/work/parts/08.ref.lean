
/-- value k of the object i -/
def fv (w : mW) (ad : Nat → Nat) (Ch : Nat → List Nat) (i k : Nat) : Int64 := aJ w (ad 112) (((Ch i)[k]?).getD 0)
/-- the cells of the object i -/
def hC (w : mW) (ad : Nat → Nat) (Ch : Nat → List Nat) (i : Nat) : Prop := i < 1700 ∧ lkI (aI w (ad 113)) 5100 (aI w (ad 106) i) (Ch i)
theorem k_M_fieldO (l : Launch) (w : mW) (o : Nat) (ad : Nat → Nat) (hM : MS w o ad) (Ch : Nat → List Nat) (i k : Nat) (hi : hC w ad Ch i) (hlt : k < (Ch i).length) (hk : k < 2 ^ 31) : mMet l y_M_field c_M_field 4 (some .long) 1 0 0 [vR (some o), vJ (ob i), vI (nI k)] w (fun v w' => v = some (vJ (fv w ad Ch i k)) ∧ w = w') :=
  k_M_field l w o ad hM (ob i) i k ⟨(ob_all i hi.1).1, hi.1⟩ (Ch i) hi.2 hlt hk
theorem k_M_setFieldO (l : Launch) (w : mW) (o : Nat) (ad : Nat → Nat) (hM : MS w o ad) (Ch : Nat → List Nat) (i k : Nat) (hi : hC w ad Ch i) (hlt : k < (Ch i).length) (hk : k < 2 ^ 31) (y : Int64) : mMet l y_M_setField c_M_setField 6 none 1 0 0 [vR (some o), vJ (ob i), vI (nI k), vJ y] w (fun v w' => v = none ∧ w' = xJ w (ad 112) (((Ch i)[k]?).getD 0) y) :=
  k_M_setField l w o ad hM (ob i) i k ⟨(ob_all i hi.1).1, hi.1⟩ (Ch i) hi.2 hlt hk y
/-- a table's entries -/
def lkE (w : mW) (ad : Nat → Nat) (Ch : Nat → List Nat) : Int64 → List Nat → Prop
  | v, [] => v = -1
  | v, e :: L => v = ob e ∧ hC w ad Ch e ∧ (Ch e).length = 3 ∧ lkE w ad Ch (fv w ad Ch e 2) L
def enF (w : mW) (ad : Nat → Nat) (Ch : Nat → List Nat) (key : Int64) : List Nat → Int64
  | [] => -1
  | e :: L => if fv w ad Ch e 0 = key then ob e else enF w ad Ch key L
theorem lgn {x y : Int64} (h : ¬ x = y) : ¬ lg_cmp x y = 0 := fun q => h ((lg_cmp_eq x y).mp q)
theorem lgy {x y : Int64} (h : x = y) : lg_cmp x y = 0 := (lg_cmp_eq x y).mpr h
set_option maxRecDepth 100000 in
set_option maxHeartbeats 4000000 in
theorem k_M_entryOf (l : Launch) (w : mW) (o : Nat) (ad : Nat → Nat) (hM : MS w o ad) (Ch : Nat → List Nat) (t : Nat) (ht : hC w ad Ch t) (ht1 : 0 < (Ch t).length) (L : List Nat) (hL : lkE w ad Ch (fv w ad Ch t 0) L) (y : Int64) : mMet l y_M_entryOf c_M_entryOf 7 (some .long) 2 0 0 [vR (some o), vJ (ob t), vJ y] w (fun v w' => v = some (vJ (enF w ad Ch y L)) ∧ w = w') := by
  refine mMet.of (by decide) (Nat.le_of_ble_eq_true rfl) ?_
  intro p e s m args below meth c D dA A X
  show mV p l e (mRm 2 0 0) s m args below meth c D dA A 7 w 0 0 _ 0 [(0, vR (some o)), (1, vJ (ob t)), (3, vJ y)] []
  refine mv_aload_n X 0 d_M_entryOf_0 rfl ?_
  refine mv_lload_n X 1 d_M_entryOf_1 rfl ?_
  refine mv_iconst (v := 0) X d_M_entryOf_2 (by decide) ?_
  refine mv_callv X [vJ (ob t), vI 0] [] (k_M_fieldO l w o ad hM Ch t 0 ht (by omega) (by decide)) d_M_entryOf_3 cv_M_98 hM.1 ⟨Nat.le_of_ble_eq_true rfl, Nat.le_of_ble_eq_true rfl⟩ ⟨Nat.le_of_ble_eq_true rfl, Nat.le_of_ble_eq_true rfl⟩ rfl (Nat.le_of_ble_eq_true rfl) (fun v3 w3 hp3 => ?_)
  obtain ⟨rfl, rfl⟩ := hp3
  refine mv_lstore (lv' := [(5, vJ (fv w ad Ch t 0)), (0, vR (some o)), (1, vJ (ob t)), (3, vJ y)]) X d_M_entryOf_6 (by decide) rfl ?_
  have key : ∀ (L : List Nat) (x : Int64), lkE w ad Ch x L → mV p l e (mRm 2 0 0) s m args below meth c D dA A 7 w 0 0 (MQ below (mQ D dA A (fun v w' => v = some (vJ (enF w ad Ch y L)) ∧ w = w')) args s 0 0 A) 8 [(5, vJ x), (0, vR (some o)), (1, vJ (ob t)), (3, vJ y)] [] := by
    intro L
    induction L with
    | nil =>
      intro x hx
      have hx : x = -1 := hx
      subst hx
      refine mv_lload X 0 d_M_entryOf_8 rfl ?_
      refine mv_ldc2 (v := (-1)) X d_M_entryOf_10 (mA (by decide +kernel) (by decide +kernel)) ?_
      refine mv_lcmp X d_M_entryOf_13 ?_
      refine mv_if_eq (tgt := 41) X d_M_entryOf_14 (by decide) (fun h14 => ?_) (fun h14 => ?_)
      · refine mv_lload X 0 d_M_entryOf_41 rfl ?_
        exact mv_ret_j X d_M_entryOf_43 rfl (Nat.le_of_ble_eq_true rfl) (Nat.le_of_ble_eq_true rfl) (⟨rfl, rfl⟩)
      · exact absurd (lgy rfl) h14
    | cons e1 L ih =>
      intro x hx
      obtain ⟨rfl, hE, h3, hx⟩ := hx
      refine mv_lload X 0 d_M_entryOf_8 rfl ?_
      refine mv_ldc2 (v := (-1)) X d_M_entryOf_10 (mA (by decide +kernel) (by decide +kernel)) ?_
      refine mv_lcmp X d_M_entryOf_13 ?_
      refine mv_if_eq (tgt := 41) X d_M_entryOf_14 (by decide) (fun h14 => ?_) (fun h14 => ?_)
      · exact absurd h14 (lgn (ob_all e1 hE.1).2.2)
      · refine mv_aload_n X 1 d_M_entryOf_17 rfl ?_
        refine mv_lload X 0 d_M_entryOf_18 rfl ?_
        refine mv_iconst (v := 0) X d_M_entryOf_20 (by decide) ?_
        refine mv_callv X [vJ (ob e1), vI 0] [] (k_M_fieldO l w o ad hM Ch e1 0 hE (by omega) (by decide)) d_M_entryOf_21 cv_M_98 hM.1 ⟨Nat.le_of_ble_eq_true rfl, Nat.le_of_ble_eq_true rfl⟩ ⟨Nat.le_of_ble_eq_true rfl, Nat.le_of_ble_eq_true rfl⟩ rfl (Nat.le_of_ble_eq_true rfl) (fun v21 w21 hp21 => ?_)
        obtain ⟨rfl, rfl⟩ := hp21
        refine mv_lload_n X 3 d_M_entryOf_24 rfl ?_
        refine mv_lcmp X d_M_entryOf_25 ?_
        refine mv_if_eq (tgt := 41) X d_M_entryOf_26 (by decide) (fun h26 => ?_) (fun h26 => ?_)
        · refine mv_lload X 0 d_M_entryOf_41 rfl ?_
          exact mv_ret_j X d_M_entryOf_43 rfl (Nat.le_of_ble_eq_true rfl) (Nat.le_of_ble_eq_true rfl) (⟨by rw [enF, if_pos ((lg_cmp_eq _ _).mp h26)], rfl⟩)
        · refine mv_aload_n X 1 d_M_entryOf_29 rfl ?_
          refine mv_lload X 0 d_M_entryOf_30 rfl ?_
          refine mv_iconst (v := 2) X d_M_entryOf_32 (by decide) ?_
          refine mv_callv X [vJ (ob e1), vI 2] [] (k_M_fieldO l w o ad hM Ch e1 2 hE (by omega) (by decide)) d_M_entryOf_33 cv_M_98 hM.1 ⟨Nat.le_of_ble_eq_true rfl, Nat.le_of_ble_eq_true rfl⟩ ⟨Nat.le_of_ble_eq_true rfl, Nat.le_of_ble_eq_true rfl⟩ rfl (Nat.le_of_ble_eq_true rfl) (fun v33 w33 hp33 => ?_)
          obtain ⟨rfl, rfl⟩ := hp33
          refine mv_lstore (lv' := [(5, vJ (fv w ad Ch e1 2)), (0, vR (some o)), (1, vJ (ob t)), (3, vJ y)]) X d_M_entryOf_36 (by decide) rfl ?_
          refine mv_goto (tgt := 8) X d_M_entryOf_38 (by decide) ?_
          have h0 := ih _ hx
          rw [show enF w ad Ch y L = enF w ad Ch y (e1 :: L) from by rw [enF, if_neg (fun q => h26 (lgy q))]] at h0
          exact h0
  exact key L _ hL
set_option maxRecDepth 100000 in
set_option maxHeartbeats 4000000 in
theorem k_M_entryCount (l : Launch) (w : mW) (o : Nat) (ad : Nat → Nat) (hM : MS w o ad) (Ch : Nat → List Nat) (t : Nat) (ht : hC w ad Ch t) (ht1 : 0 < (Ch t).length) (L : List Nat) (hL : lkE w ad Ch (fv w ad Ch t 0) L) : mMet l y_M_entryCount c_M_entryCount 6 (some .int) 2 0 0 [vR (some o), vJ (ob t)] w (fun v w' => v = some (vI (nI L.length)) ∧ w = w') := by
  refine mMet.of (by decide) (Nat.le_of_ble_eq_true rfl) ?_
  intro p e s m args below meth c D dA A X
  show mV p l e (mRm 2 0 0) s m args below meth c D dA A 6 w 0 0 _ 0 [(0, vR (some o)), (1, vJ (ob t))] []
  refine mv_iconst (v := 0) X d_M_entryCount_0 (by decide) ?_
  refine mv_istore_n (lv' := [(3, vI 0), (0, vR (some o)), (1, vJ (ob t))]) X d_M_entryCount_1 (by decide) rfl ?_
  refine mv_aload_n X 1 d_M_entryCount_2 rfl ?_
  refine mv_lload_n X 2 d_M_entryCount_3 rfl ?_
  refine mv_iconst (v := 0) X d_M_entryCount_4 (by decide) ?_
  refine mv_callv X [vJ (ob t), vI 0] [] (k_M_fieldO l w o ad hM Ch t 0 ht (by omega) (by decide)) d_M_entryCount_5 cv_M_98 hM.1 ⟨Nat.le_of_ble_eq_true rfl, Nat.le_of_ble_eq_true rfl⟩ ⟨Nat.le_of_ble_eq_true rfl, Nat.le_of_ble_eq_true rfl⟩ rfl (Nat.le_of_ble_eq_true rfl) (fun v5 w5 hp5 => ?_)
  obtain ⟨rfl, rfl⟩ := hp5
  refine mv_lstore (lv' := [(4, vJ (fv w ad Ch t 0)), (3, vI 0), (0, vR (some o)), (1, vJ (ob t))]) X d_M_entryCount_8 (by decide) rfl ?_
  have key : ∀ (L : List Nat) (n : Nat) (x : Int64), lkE w ad Ch x L → mV p l e (mRm 2 0 0) s m args below meth c D dA A 6 w 0 0 (MQ below (mQ D dA A (fun v w' => v = some (vI (nI (n + L.length))) ∧ w = w')) args s 0 0 A) 10 [(4, vJ x), (3, vI (nI n)), (0, vR (some o)), (1, vJ (ob t))] [] := by
    intro L
    induction L with
    | nil =>
      intro n x hx
      have hx : x = -1 := hx
      subst hx
      refine mv_lload X 0 d_M_entryCount_10 rfl ?_
      refine mv_ldc2 (v := (-1)) X d_M_entryCount_12 (mA (by decide +kernel) (by decide +kernel)) ?_
      refine mv_lcmp X d_M_entryCount_15 ?_
      refine mv_if_eq (tgt := 35) X d_M_entryCount_16 (by decide) (fun h16 => ?_) (fun h16 => ?_)
      · refine mv_iload_n X 1 d_M_entryCount_35 rfl ?_
        exact mv_ret_i (Post := _) X d_M_entryCount_36 rfl rfl (Nat.le_of_ble_eq_true rfl) (Nat.le_of_ble_eq_true rfl) (⟨rfl, rfl⟩)
      · exact absurd (lgy rfl) h16
    | cons e1 L ih =>
      intro n x hx
      obtain ⟨rfl, hE, h3, hx⟩ := hx
      refine mv_lload X 0 d_M_entryCount_10 rfl ?_
      refine mv_ldc2 (v := (-1)) X d_M_entryCount_12 (mA (by decide +kernel) (by decide +kernel)) ?_
      refine mv_lcmp X d_M_entryCount_15 ?_
      refine mv_if_eq (tgt := 35) X d_M_entryCount_16 (by decide) (fun h16 => ?_) (fun h16 => ?_)
      · exact absurd h16 (lgn (ob_all e1 hE.1).2.2)
      · refine mv_iload_n X 1 d_M_entryCount_19 rfl ?_
        refine mv_iconst (v := 1) X d_M_entryCount_20 (by decide) ?_
        refine mv_iadd X d_M_entryCount_21 ?_
        refine mv_istore_n (lv' := [(3, vI ((nI n) + 1)), (4, vJ (ob e1)), (0, vR (some o)), (1, vJ (ob t))]) X d_M_entryCount_22 (by decide) rfl ?_
        refine mv_aload_n X 2 d_M_entryCount_23 rfl ?_
        refine mv_lload X 1 d_M_entryCount_24 rfl ?_
        refine mv_iconst (v := 2) X d_M_entryCount_26 (by decide) ?_
        refine mv_callv X [vJ (ob e1), vI 2] [] (k_M_fieldO l w o ad hM Ch e1 2 hE (by omega) (by decide)) d_M_entryCount_27 cv_M_98 hM.1 ⟨Nat.le_of_ble_eq_true rfl, Nat.le_of_ble_eq_true rfl⟩ ⟨Nat.le_of_ble_eq_true rfl, Nat.le_of_ble_eq_true rfl⟩ rfl (Nat.le_of_ble_eq_true rfl) (fun v27 w27 hp27 => ?_)
        obtain ⟨rfl, rfl⟩ := hp27
        refine mv_lstore (lv' := [(4, vJ (fv w ad Ch e1 2)), (3, vI ((nI n) + 1)), (0, vR (some o)), (1, vJ (ob t))]) X d_M_entryCount_30 (by decide) rfl ?_
        refine mv_goto (tgt := 10) X d_M_entryCount_32 (by decide) ?_
        have h0 := ih (n + 1) _ hx
        rw [show n + 1 + L.length = n + (e1 :: L).length from by simp; omega, ← nI_1] at h0
        exact mv_sub [0, 1, 2, 3] rfl h0
  have h0 := key L 0 _ hL
  rw [Nat.zero_add] at h0
  exact h0
