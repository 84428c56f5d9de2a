
def bI (b : Bool) : Int32 := cond b 1 0
theorem bI_0 {b : Bool} : bI b = 0 ↔ b = false := by cases b <;> decide
theorem bI_ne {b : Bool} : ¬ bI b = 0 ↔ b = true := by cases b <;> decide
theorem bI_nz (b : Bool) : narrow .boolean (.int (bI b)) = .int (bI b) := by cases b <;> rfl
def isRg (r : Int32) : Bool := decide (0 ≤ r) && decide (r < 8)
theorem isRg_of {r : Int32} (h : isRg r = true) : ∃ j : Nat, j < 8 ∧ r = nI j := by
  unfold isRg at h
  simp only [Bool.and_eq_true, decide_eq_true_eq] at h
  obtain ⟨j, h1, h2⟩ := nI_of (x := r) (by rw [Int32.not_lt]; exact h.1)
  subst h2
  refine ⟨j, ?_, rfl⟩
  have h3 := h.2
  rw [Int32.lt_iff_toInt_lt, nI_toInt h1] at h3
  have : (8 : Int32).toInt = 8 := by decide
  omega
theorem isRg_f1 {r : Int32} (h : r < 0) : isRg r = false := by
  unfold isRg
  rw [decide_eq_false (by rw [Int32.not_le]; exact h)]
  rfl
theorem isRg_f2 {r : Int32} (h : 8 ≤ r) : isRg r = false := by
  unfold isRg
  rw [decide_eq_false (p := r < 8) (by rw [Int32.not_lt]; exact h), Bool.and_false]
theorem isRg_t {r : Int32} (h1 : ¬ r < 0) (h2 : ¬ 8 ≤ r) : isRg r = true := by
  unfold isRg
  rw [decide_eq_true (Int32.not_lt.mp h1), decide_eq_true (Int32.not_le.mp h2)]
  rfl
def isOb (v : Int64) : Bool := decide (v >>> (Int32.toInt64 32 &&& 63) = 6)
def cOf (k n : Int32) : Int32 := if k = 1 then 3 + n else if k = 2 ∨ k = 4 then 3 else if k = 5 then 5 else 4
def MS (w : mW) (o : Nat) (ad : Nat → Nat) : Prop := gK w o = some (.inl 0) ∧ (∀ q ∈ ([(101, 3, 8), (104, 1, 1700), (105, 1, 1700), (106, 1, 1700), (107, 1, 1700), (108, 2, 1700), (109, 2, 1700), (110, 1, 1700), (112, 3, 5100), (113, 1, 5100), (116, 3, 60), (117, 3, 60), (119, 3, 60), (120, 3, 60)] : List (Nat × Nat × Nat)), gR w q.1 o = some (ad q.1) ∧ gK w (ad q.1) = some (.inr q.2)) ∧ ∀ k k', k ∈ ([101, 104, 105, 106, 107, 108, 109, 110, 112, 113, 116, 117, 119, 120] : List Nat) → k' ∈ ([101, 104, 105, 106, 107, 108, 109, 110, 112, 113, 116, 117, 119, 120] : List Nat) → ad k = ad k' → k = k'
theorem MS.r101 {w : mW} {o : Nat} {ad : Nat → Nat} (h : MS w o ad) : gR w 101 o = some (ad 101) := (h.2.1 (101, 3, 8) (by decide)).1
theorem MS.k101 {w : mW} {o : Nat} {ad : Nat → Nat} (h : MS w o ad) : gK w (ad 101) = some (.inr (3, 8)) := (h.2.1 (101, 3, 8) (by decide)).2
theorem MS.r104 {w : mW} {o : Nat} {ad : Nat → Nat} (h : MS w o ad) : gR w 104 o = some (ad 104) := (h.2.1 (104, 1, 1700) (by decide)).1
theorem MS.k104 {w : mW} {o : Nat} {ad : Nat → Nat} (h : MS w o ad) : gK w (ad 104) = some (.inr (1, 1700)) := (h.2.1 (104, 1, 1700) (by decide)).2
theorem MS.r105 {w : mW} {o : Nat} {ad : Nat → Nat} (h : MS w o ad) : gR w 105 o = some (ad 105) := (h.2.1 (105, 1, 1700) (by decide)).1
theorem MS.k105 {w : mW} {o : Nat} {ad : Nat → Nat} (h : MS w o ad) : gK w (ad 105) = some (.inr (1, 1700)) := (h.2.1 (105, 1, 1700) (by decide)).2
theorem MS.r106 {w : mW} {o : Nat} {ad : Nat → Nat} (h : MS w o ad) : gR w 106 o = some (ad 106) := (h.2.1 (106, 1, 1700) (by decide)).1
theorem MS.k106 {w : mW} {o : Nat} {ad : Nat → Nat} (h : MS w o ad) : gK w (ad 106) = some (.inr (1, 1700)) := (h.2.1 (106, 1, 1700) (by decide)).2
theorem MS.r107 {w : mW} {o : Nat} {ad : Nat → Nat} (h : MS w o ad) : gR w 107 o = some (ad 107) := (h.2.1 (107, 1, 1700) (by decide)).1
theorem MS.k107 {w : mW} {o : Nat} {ad : Nat → Nat} (h : MS w o ad) : gK w (ad 107) = some (.inr (1, 1700)) := (h.2.1 (107, 1, 1700) (by decide)).2
theorem MS.r108 {w : mW} {o : Nat} {ad : Nat → Nat} (h : MS w o ad) : gR w 108 o = some (ad 108) := (h.2.1 (108, 2, 1700) (by decide)).1
theorem MS.k108 {w : mW} {o : Nat} {ad : Nat → Nat} (h : MS w o ad) : gK w (ad 108) = some (.inr (2, 1700)) := (h.2.1 (108, 2, 1700) (by decide)).2
theorem MS.r109 {w : mW} {o : Nat} {ad : Nat → Nat} (h : MS w o ad) : gR w 109 o = some (ad 109) := (h.2.1 (109, 2, 1700) (by decide)).1
theorem MS.k109 {w : mW} {o : Nat} {ad : Nat → Nat} (h : MS w o ad) : gK w (ad 109) = some (.inr (2, 1700)) := (h.2.1 (109, 2, 1700) (by decide)).2
theorem MS.r110 {w : mW} {o : Nat} {ad : Nat → Nat} (h : MS w o ad) : gR w 110 o = some (ad 110) := (h.2.1 (110, 1, 1700) (by decide)).1
theorem MS.k110 {w : mW} {o : Nat} {ad : Nat → Nat} (h : MS w o ad) : gK w (ad 110) = some (.inr (1, 1700)) := (h.2.1 (110, 1, 1700) (by decide)).2
theorem MS.r112 {w : mW} {o : Nat} {ad : Nat → Nat} (h : MS w o ad) : gR w 112 o = some (ad 112) := (h.2.1 (112, 3, 5100) (by decide)).1
theorem MS.k112 {w : mW} {o : Nat} {ad : Nat → Nat} (h : MS w o ad) : gK w (ad 112) = some (.inr (3, 5100)) := (h.2.1 (112, 3, 5100) (by decide)).2
theorem MS.r113 {w : mW} {o : Nat} {ad : Nat → Nat} (h : MS w o ad) : gR w 113 o = some (ad 113) := (h.2.1 (113, 1, 5100) (by decide)).1
theorem MS.k113 {w : mW} {o : Nat} {ad : Nat → Nat} (h : MS w o ad) : gK w (ad 113) = some (.inr (1, 5100)) := (h.2.1 (113, 1, 5100) (by decide)).2
theorem MS.r116 {w : mW} {o : Nat} {ad : Nat → Nat} (h : MS w o ad) : gR w 116 o = some (ad 116) := (h.2.1 (116, 3, 60) (by decide)).1
theorem MS.k116 {w : mW} {o : Nat} {ad : Nat → Nat} (h : MS w o ad) : gK w (ad 116) = some (.inr (3, 60)) := (h.2.1 (116, 3, 60) (by decide)).2
theorem MS.r117 {w : mW} {o : Nat} {ad : Nat → Nat} (h : MS w o ad) : gR w 117 o = some (ad 117) := (h.2.1 (117, 3, 60) (by decide)).1
theorem MS.k117 {w : mW} {o : Nat} {ad : Nat → Nat} (h : MS w o ad) : gK w (ad 117) = some (.inr (3, 60)) := (h.2.1 (117, 3, 60) (by decide)).2
theorem MS.r119 {w : mW} {o : Nat} {ad : Nat → Nat} (h : MS w o ad) : gR w 119 o = some (ad 119) := (h.2.1 (119, 3, 60) (by decide)).1
theorem MS.k119 {w : mW} {o : Nat} {ad : Nat → Nat} (h : MS w o ad) : gK w (ad 119) = some (.inr (3, 60)) := (h.2.1 (119, 3, 60) (by decide)).2
theorem MS.r120 {w : mW} {o : Nat} {ad : Nat → Nat} (h : MS w o ad) : gR w 120 o = some (ad 120) := (h.2.1 (120, 3, 60) (by decide)).1
theorem MS.k120 {w : mW} {o : Nat} {ad : Nat → Nat} (h : MS w o ad) : gK w (ad 120) = some (.inr (3, 60)) := (h.2.1 (120, 3, 60) (by decide)).2
/-- a chain of cells by int links, -1 its end -/
def lkI (f : Nat → Int32) (N : Nat) : Int32 → List Nat → Prop
  | x, [] => x = -1
  | x, c :: L => x = nI c ∧ c < N ∧ lkI f N (f c) L
theorem lkI_lt {f : Nat → Int32} {N : Nat} : ∀ {L : List Nat} {x : Int32} {k : Nat}, lkI f N x L → k < L.length → (L[k]?).getD 0 < N
  | [], _, _, _, h => absurd h (by simp)
  | c :: L, _, 0, h, _ => h.2.1
  | c :: L, _, k + 1, h, hk => by
    have := lkI_lt (k := k) h.2.2 (by simpa using hk)
    simpa using this
set_option maxRecDepth 100000 in
set_option maxHeartbeats 4000000 in
theorem k_M_isRegister (l : Launch) (w : mW) (r : Int32) : mMet l y_M_isRegister c_M_isRegister 1 (some .boolean) 0 0 0 [vI r] w (fun v w' => v = some (vI (bI (isRg r))) ∧ w = w') := by
  refine mMet.of (by decide) (Nat.le_of_ble_eq_true rfl) ?_
  intro p e s m args below meth c D dA A X
  show mV p l e (mRm 0 0 0) s m args below meth c D dA A 1 w 0 0 _ 0 [(0, vI r)] []
  refine mv_iload_n X 0 d_M_isRegister_0 rfl ?_
  refine mv_if_lt (tgt := 14) X d_M_isRegister_1 (by decide) (fun h1 => ?_) (fun h1 => ?_)
  · refine mv_iconst (v := 0) X d_M_isRegister_14 (by decide) ?_
    exact mv_ret_i (Post := _) X d_M_isRegister_15 rfl (by rfl) (Nat.le_of_ble_eq_true rfl) (Nat.le_of_ble_eq_true rfl) (⟨by rw [isRg_f1 h1]; rfl, rfl⟩)
  · refine mv_iload_n X 0 d_M_isRegister_4 rfl ?_
    refine mv_bipush (v := 8) X d_M_isRegister_5 (by decide) ?_
    refine mv_icmp_ge (tgt := 14) X d_M_isRegister_7 (by decide) (fun h7 => ?_) (fun h7 => ?_)
    · refine mv_iconst (v := 0) X d_M_isRegister_14 (by decide) ?_
      exact mv_ret_i (Post := _) X d_M_isRegister_15 rfl (by rfl) (Nat.le_of_ble_eq_true rfl) (Nat.le_of_ble_eq_true rfl) (⟨by rw [isRg_f2 h7]; rfl, rfl⟩)
    · refine mv_iconst (v := 1) X d_M_isRegister_10 (by decide) ?_
      refine mv_goto (tgt := 15) X d_M_isRegister_11 (by decide) ?_
      exact mv_ret_i (Post := _) X d_M_isRegister_15 rfl (by rfl) (Nat.le_of_ble_eq_true rfl) (Nat.le_of_ble_eq_true rfl) (⟨by rw [isRg_t h1 h7]; rfl, rfl⟩)
set_option maxRecDepth 100000 in
set_option maxHeartbeats 4000000 in
theorem k_M_isObject (l : Launch) (w : mW) (x : Int64) : mMet l y_M_isObject c_M_isObject 2 (some .boolean) 0 0 0 [vJ x] w (fun v w' => v = some (vI (bI (isOb x))) ∧ w = w') := by
  refine mMet.of (by decide) (Nat.le_of_ble_eq_true rfl) ?_
  intro p e s m args below meth c D dA A X
  show mV p l e (mRm 0 0 0) s m args below meth c D dA A 2 w 0 0 _ 0 [(0, vJ x)] []
  refine mv_lload_n X 0 d_M_isObject_0 rfl ?_
  refine mv_bipush (v := 32) X d_M_isObject_1 (by decide) ?_
  refine mv_lshr (v := x >>> (Int32.toInt64 32 &&& 63)) X d_M_isObject_3 rfl ?_
  refine mv_ldc2 (v := 6) X d_M_isObject_4 (mA (by decide +kernel) (by decide +kernel)) ?_
  refine mv_lcmp X d_M_isObject_7 ?_
  refine mv_if_ne (tgt := 15) X d_M_isObject_8 (by decide) (fun h8 => ?_) (fun h8 => ?_)
  · refine mv_iconst (v := 0) X d_M_isObject_15 (by decide) ?_
    exact mv_ret_i (Post := _) X d_M_isObject_16 rfl (by rfl) (Nat.le_of_ble_eq_true rfl) (Nat.le_of_ble_eq_true rfl) (⟨by rw [lg_cmp_eq] at h8; unfold isOb; rw [decide_eq_false h8]; rfl, rfl⟩)
  · refine mv_iconst (v := 1) X d_M_isObject_11 (by decide) ?_
    refine mv_goto (tgt := 16) X d_M_isObject_12 (by decide) ?_
    exact mv_ret_i (Post := _) X d_M_isObject_16 rfl (by rfl) (Nat.le_of_ble_eq_true rfl) (Nat.le_of_ble_eq_true rfl) (⟨by rw [lg_cmp_eq] at h8; unfold isOb; rw [decide_eq_true h8]; rfl, rfl⟩)
set_option maxRecDepth 100000 in
set_option maxHeartbeats 4000000 in
theorem k_M_cellsOf (l : Launch) (w : mW) (k n : Int32) : mMet l y_M_cellsOf c_M_cellsOf 2 (some .int) 0 0 0 [vI k, vI n] w (fun v w' => v = some (vI (cOf k n)) ∧ w = w') := by
  refine mMet.of (by decide) (Nat.le_of_ble_eq_true rfl) ?_
  intro p e s m args below meth c D dA A X
  show mV p l e (mRm 0 0 0) s m args below meth c D dA A 2 w 0 0 _ 0 [(0, vI k), (1, vI n)] []
  refine mv_iload_n X 0 d_M_cellsOf_0 rfl ?_
  refine mv_iconst (v := 1) X d_M_cellsOf_1 (by decide) ?_
  refine mv_icmp_ne (tgt := 11) X d_M_cellsOf_2 (by decide) (fun h2 => ?_) (fun h2 => ?_)
  · refine mv_iload_n X 0 d_M_cellsOf_11 rfl ?_
    refine mv_iconst (v := 2) X d_M_cellsOf_12 (by decide) ?_
    refine mv_icmp_eq (tgt := 21) X d_M_cellsOf_13 (by decide) (fun h13 => ?_) (fun h13 => ?_)
    · refine mv_iconst (v := 3) X d_M_cellsOf_21 (by decide) ?_
      refine mv_goto (tgt := 35) X d_M_cellsOf_22 (by decide) ?_
      exact mv_ret_i (Post := _) X d_M_cellsOf_35 rfl rfl (Nat.le_of_ble_eq_true rfl) (Nat.le_of_ble_eq_true rfl) (by refine ⟨?_, rfl⟩; simp_all [cOf])
    · refine mv_iload_n X 0 d_M_cellsOf_16 rfl ?_
      refine mv_iconst (v := 4) X d_M_cellsOf_17 (by decide) ?_
      refine mv_icmp_ne (tgt := 25) X d_M_cellsOf_18 (by decide) (fun h18 => ?_) (fun h18 => ?_)
      · refine mv_iload_n X 0 d_M_cellsOf_25 rfl ?_
        refine mv_iconst (v := 5) X d_M_cellsOf_26 (by decide) ?_
        refine mv_icmp_ne (tgt := 34) X d_M_cellsOf_27 (by decide) (fun h27 => ?_) (fun h27 => ?_)
        · refine mv_iconst (v := 4) X d_M_cellsOf_34 (by decide) ?_
          exact mv_ret_i (Post := _) X d_M_cellsOf_35 rfl rfl (Nat.le_of_ble_eq_true rfl) (Nat.le_of_ble_eq_true rfl) (by refine ⟨?_, rfl⟩; simp_all [cOf])
        · refine mv_iconst (v := 5) X d_M_cellsOf_30 (by decide) ?_
          refine mv_goto (tgt := 35) X d_M_cellsOf_31 (by decide) ?_
          exact mv_ret_i (Post := _) X d_M_cellsOf_35 rfl rfl (Nat.le_of_ble_eq_true rfl) (Nat.le_of_ble_eq_true rfl) (by refine ⟨?_, rfl⟩; simp_all [cOf])
      · refine mv_iconst (v := 3) X d_M_cellsOf_21 (by decide) ?_
        refine mv_goto (tgt := 35) X d_M_cellsOf_22 (by decide) ?_
        exact mv_ret_i (Post := _) X d_M_cellsOf_35 rfl rfl (Nat.le_of_ble_eq_true rfl) (Nat.le_of_ble_eq_true rfl) (by refine ⟨?_, rfl⟩; simp_all [cOf])
  · refine mv_iconst (v := 3) X d_M_cellsOf_5 (by decide) ?_
    refine mv_iload_n X 1 d_M_cellsOf_6 rfl ?_
    refine mv_iadd X d_M_cellsOf_7 ?_
    refine mv_goto (tgt := 35) X d_M_cellsOf_8 (by decide) ?_
    exact mv_ret_i (Post := _) X d_M_cellsOf_35 rfl rfl (Nat.le_of_ble_eq_true rfl) (Nat.le_of_ble_eq_true rfl) (by refine ⟨?_, rfl⟩; simp_all [cOf])
set_option maxRecDepth 100000 in
set_option maxHeartbeats 4000000 in
theorem k_M_is (l : Launch) (w : mW) (o : Nat) (ad : Nat → Nat) (hM : MS w o ad) (x : Int64) (k : Int32) (j : Nat) (hj : isOb x = true → x.toInt32 = nI j ∧ j < 1700) : mMet l y_M_is c_M_is 4 (some .boolean) 1 0 0 [vR (some o), vJ x, vI k] w (fun v w' => v = some (vI (bI (isOb x && decide (aI w (ad 104) j = k)))) ∧ w = w') := by
  refine mMet.of (by decide) (Nat.le_of_ble_eq_true rfl) ?_
  intro p e s m args below meth c D dA A X
  show mV p l e (mRm 1 0 0) s m args below meth c D dA A 4 w 0 0 _ 0 [(0, vR (some o)), (1, vJ x), (3, vI k)] []
  refine mv_lload_n X 1 d_M_is_0 rfl ?_
  refine mv_calls X [vJ x] [] (k_M_isObject l w x) d_M_is_1 cs_M_62 ⟨Nat.le_of_ble_eq_true rfl, Nat.le_of_ble_eq_true rfl⟩ ⟨Nat.le_of_ble_eq_true rfl, Nat.le_of_ble_eq_true rfl⟩ rfl (Nat.le_of_ble_eq_true rfl) (fun v1 w1 hp1 => ?_)
  obtain ⟨rfl, rfl⟩ := hp1
  refine mv_if_eq (tgt := 22) X d_M_is_4 (by decide) (fun h4 => ?_) (fun h4 => ?_)
  · refine mv_iconst (v := 0) X d_M_is_22 (by decide) ?_
    exact mv_ret_i (Post := _) X d_M_is_23 rfl (by rfl) (Nat.le_of_ble_eq_true rfl) (Nat.le_of_ble_eq_true rfl) (by refine ⟨?_, rfl⟩; rw [bI_0] at h4; simp [bI, h4])
  · refine mv_aload_n X 0 d_M_is_7 rfl ?_
    refine mv_getr (w := w) X d_M_is_8 f_M_13 (mIs.one hM.1) hM.r104 ?_
    refine mv_lload_n X 1 d_M_is_11 rfl ?_
    refine mv_l2i (v := Int64.toInt32 x) X d_M_is_12 rfl ?_
    refine mv_iald (x := aI w (ad 104) j) X d_M_is_13 rfl rfl hM.k104 ((hj (bI_ne.mp h4)).1) ((hj (bI_ne.mp h4)).2) (by decide) rfl ?_
    refine mv_iload_n X 2 d_M_is_14 rfl ?_
    refine mv_icmp_ne (tgt := 22) X d_M_is_15 (by decide) (fun h15 => ?_) (fun h15 => ?_)
    · refine mv_iconst (v := 0) X d_M_is_22 (by decide) ?_
      exact mv_ret_i (Post := _) X d_M_is_23 rfl (by rfl) (Nat.le_of_ble_eq_true rfl) (Nat.le_of_ble_eq_true rfl) (by refine ⟨?_, rfl⟩; rw [bI_ne] at h4; simp [bI, h4, h15])
    · refine mv_iconst (v := 1) X d_M_is_18 (by decide) ?_
      refine mv_goto (tgt := 23) X d_M_is_19 (by decide) ?_
      exact mv_ret_i (Post := _) X d_M_is_23 rfl (by rfl) (Nat.le_of_ble_eq_true rfl) (Nat.le_of_ble_eq_true rfl) (by refine ⟨?_, rfl⟩; rw [bI_ne] at h4; simp [bI, h4, h15])
set_option maxRecDepth 100000 in
set_option maxHeartbeats 4000000 in
theorem k_M_isLive (l : Launch) (w : mW) (o : Nat) (ad : Nat → Nat) (hM : MS w o ad) (x : Int64) (j : Nat) (hj : isOb x = true → x.toInt32 = nI j ∧ j < 1700) : mMet l y_M_isLive c_M_isLive 3 (some .boolean) 1 0 0 [vR (some o), vJ x] w (fun v w' => v = some (vI (bI (!isOb x || !decide (aI w (ad 109) j = 0)))) ∧ w = w') := by
  refine mMet.of (by decide) (Nat.le_of_ble_eq_true rfl) ?_
  intro p e s m args below meth c D dA A X
  show mV p l e (mRm 1 0 0) s m args below meth c D dA A 3 w 0 0 _ 0 [(0, vR (some o)), (1, vJ x)] []
  refine mv_lload_n X 1 d_M_isLive_0 rfl ?_
  refine mv_calls X [vJ x] [] (k_M_isObject l w x) d_M_isLive_1 cs_M_62 ⟨Nat.le_of_ble_eq_true rfl, Nat.le_of_ble_eq_true rfl⟩ ⟨Nat.le_of_ble_eq_true rfl, Nat.le_of_ble_eq_true rfl⟩ rfl (Nat.le_of_ble_eq_true rfl) (fun v1 w1 hp1 => ?_)
  obtain ⟨rfl, rfl⟩ := hp1
  refine mv_if_eq (tgt := 17) X d_M_isLive_4 (by decide) (fun h4 => ?_) (fun h4 => ?_)
  · refine mv_iconst (v := 1) X d_M_isLive_17 (by decide) ?_
    refine mv_goto (tgt := 22) X d_M_isLive_18 (by decide) ?_
    exact mv_ret_i (Post := _) X d_M_isLive_22 rfl (by rfl) (Nat.le_of_ble_eq_true rfl) (Nat.le_of_ble_eq_true rfl) (by refine ⟨?_, rfl⟩; rw [bI_0] at h4; simp [bI, h4])
  · refine mv_aload_n X 0 d_M_isLive_7 rfl ?_
    refine mv_getr (w := w) X d_M_isLive_8 f_M_30 (mIs.one hM.1) hM.r109 ?_
    refine mv_lload_n X 1 d_M_isLive_11 rfl ?_
    refine mv_l2i (v := Int64.toInt32 x) X d_M_isLive_12 rfl ?_
    refine mv_zald (x := aI w (ad 109) j) X d_M_isLive_13 rfl rfl hM.k109 ((hj (bI_ne.mp h4)).1) ((hj (bI_ne.mp h4)).2) (by decide) rfl ?_
    refine mv_if_eq (tgt := 21) X d_M_isLive_14 (by decide) (fun h14 => ?_) (fun h14 => ?_)
    · refine mv_iconst (v := 0) X d_M_isLive_21 (by decide) ?_
      exact mv_ret_i (Post := _) X d_M_isLive_22 rfl (by rfl) (Nat.le_of_ble_eq_true rfl) (Nat.le_of_ble_eq_true rfl) (by refine ⟨?_, rfl⟩; rw [bI_ne] at h4; simp [bI, h4, h14])
    · refine mv_iconst (v := 1) X d_M_isLive_17 (by decide) ?_
      refine mv_goto (tgt := 22) X d_M_isLive_18 (by decide) ?_
      exact mv_ret_i (Post := _) X d_M_isLive_22 rfl (by rfl) (Nat.le_of_ble_eq_true rfl) (Nat.le_of_ble_eq_true rfl) (by refine ⟨?_, rfl⟩; rw [bI_ne] at h4; simp [bI, h4, h14])
set_option maxRecDepth 100000 in
set_option maxHeartbeats 4000000 in
theorem k_M_shown (l : Launch) (w : mW) (o : Nat) (ad : Nat → Nat) (hM : MS w o ad) (x : Int64) (j : Nat) (hj : x.toInt32 = nI j ∧ j < 1700) : mMet l y_M_shown c_M_shown 3 (some .int) 0 0 0 [vR (some o), vJ x] w (fun v w' => v = some (vI (if aI w (ad 104) j = 4 then 0 else aI w (ad 105) j)) ∧ w = w') := by
  refine mMet.of (by decide) (Nat.le_of_ble_eq_true rfl) ?_
  intro p e s m args below meth c D dA A X
  show mV p l e (mRm 0 0 0) s m args below meth c D dA A 3 w 0 0 _ 0 [(0, vR (some o)), (1, vJ x)] []
  refine mv_aload_n X 0 d_M_shown_0 rfl ?_
  refine mv_getr (w := w) X d_M_shown_1 f_M_13 (mIs.one hM.1) hM.r104 ?_
  refine mv_lload_n X 1 d_M_shown_4 rfl ?_
  refine mv_l2i (v := Int64.toInt32 x) X d_M_shown_5 rfl ?_
  refine mv_iald (x := aI w (ad 104) j) X d_M_shown_6 rfl rfl hM.k104 hj.1 hj.2 (by decide) rfl ?_
  refine mv_iconst (v := 4) X d_M_shown_7 (by decide) ?_
  refine mv_icmp_ne (tgt := 15) X d_M_shown_8 (by decide) (fun h8 => ?_) (fun h8 => ?_)
  · refine mv_aload_n X 0 d_M_shown_15 rfl ?_
    refine mv_getr (w := w) X d_M_shown_16 f_M_17 (mIs.one hM.1) hM.r105 ?_
    refine mv_lload_n X 1 d_M_shown_19 rfl ?_
    refine mv_l2i (v := Int64.toInt32 x) X d_M_shown_20 rfl ?_
    refine mv_iald (x := aI w (ad 105) j) X d_M_shown_21 rfl rfl hM.k105 hj.1 hj.2 (by decide) rfl ?_
    exact mv_ret_i (Post := _) X d_M_shown_22 rfl rfl (Nat.le_of_ble_eq_true rfl) (Nat.le_of_ble_eq_true rfl) (by refine ⟨?_, rfl⟩; simp_all)
  · refine mv_iconst (v := 0) X d_M_shown_11 (by decide) ?_
    refine mv_goto (tgt := 22) X d_M_shown_12 (by decide) ?_
    exact mv_ret_i (Post := _) X d_M_shown_22 rfl rfl (Nat.le_of_ble_eq_true rfl) (Nat.le_of_ble_eq_true rfl) (by refine ⟨?_, rfl⟩; simp_all)
set_option maxRecDepth 100000 in
set_option maxHeartbeats 4000000 in
theorem k_M_cellAt (l : Launch) (w : mW) (o : Nat) (ad : Nat → Nat) (hM : MS w o ad) (x : Int64) (j k : Nat) (hj : x.toInt32 = nI j ∧ j < 1700) (Lc : List Nat) (hch : lkI (aI w (ad 113)) 5100 (aI w (ad 106) j) Lc) (hlt : k < Lc.length) (hk : k < 2 ^ 31) : mMet l y_M_cellAt c_M_cellAt 6 (some .int) 0 0 0 [vR (some o), vJ x, vI (nI k)] w (fun v w' => v = some (vI (nI ((Lc[k]?).getD 0))) ∧ w = w') := by
  refine mMet.of (by decide) (Nat.le_of_ble_eq_true rfl) ?_
  intro p e s m args below meth c D dA A X
  show mV p l e (mRm 0 0 0) s m args below meth c D dA A 6 w 0 0 _ 0 [(0, vR (some o)), (1, vJ x), (3, vI (nI k))] []
  refine mv_aload_n X 0 d_M_cellAt_0 rfl ?_
  refine mv_getr (w := w) X d_M_cellAt_1 f_M_20 (mIs.one hM.1) hM.r106 ?_
  refine mv_lload_n X 1 d_M_cellAt_4 rfl ?_
  refine mv_l2i (v := Int64.toInt32 x) X d_M_cellAt_5 rfl ?_
  refine mv_iald (x := aI w (ad 106) j) X d_M_cellAt_6 rfl rfl hM.k106 hj.1 hj.2 (by decide) rfl ?_
  refine mv_istore (lv' := [(4, vI (aI w (ad 106) j)), (0, vR (some o)), (1, vJ x), (3, vI (nI k))]) X d_M_cellAt_7 (by decide) rfl ?_
  refine mv_iconst (v := 0) X d_M_cellAt_9 (by decide) ?_
  refine mv_istore (lv' := [(5, vI 0), (4, vI (aI w (ad 106) j)), (0, vR (some o)), (1, vJ x), (3, vI (nI k))]) X d_M_cellAt_10 (by decide) rfl ?_
  have key : ∀ (n i : Nat) (Lr : List Nat) (c0 : Int32), n + i = k → n < Lr.length → lkI (aI w (ad 113)) 5100 c0 Lr → mV p l e (mRm 0 0 0) s m args below meth c D dA A 6 w 0 0 (MQ below (mQ D dA A (fun v w' => v = some (vI (nI ((Lr[n]?).getD 0))) ∧ w = w')) args s 0 0 A) 12 [(5, vI (nI i)), (4, vI c0), (0, vR (some o)), (1, vJ x), (3, vI (nI k))] [] := by
    intro n
    induction n with
    | zero =>
      intro i Lr c0 hn hlt hch
      have hik : i = k := by omega
      subst hik
      obtain ⟨c1, Lr, rfl⟩ : ∃ c1 L2, Lr = c1 :: L2 := by cases Lr with | nil => exact absurd hlt (by simp) | cons a L2 => exact ⟨a, L2, rfl⟩
      obtain ⟨rfl, hc1, hch⟩ := hch
      refine mv_iload X 0 d_M_cellAt_12 rfl ?_
      refine mv_iload_n X 4 d_M_cellAt_14 rfl ?_
      refine mv_icmp_ge (tgt := 33) X d_M_cellAt_15 (by decide) (fun h15 => ?_) (fun h15 => ?_)
      · refine mv_iload X 1 d_M_cellAt_33 rfl ?_
        exact mv_ret_i (Post := _) X d_M_cellAt_35 rfl rfl (Nat.le_of_ble_eq_true rfl) (Nat.le_of_ble_eq_true rfl) (⟨rfl, rfl⟩)
      · exact absurd (nI_le (Nat.le_refl i) hk) h15
    | succ n ih =>
      intro i Lr c0 hn hlt hch
      obtain ⟨c1, Lr, rfl⟩ : ∃ c1 L2, Lr = c1 :: L2 := by cases Lr with | nil => exact absurd hlt (by simp) | cons a L2 => exact ⟨a, L2, rfl⟩
      obtain ⟨rfl, hc1, hch⟩ := hch
      refine mv_iload X 0 d_M_cellAt_12 rfl ?_
      refine mv_iload_n X 4 d_M_cellAt_14 rfl ?_
      refine mv_icmp_ge (tgt := 33) X d_M_cellAt_15 (by decide) (fun h15 => ?_) (fun h15 => ?_)
      · exact absurd h15 (nI_ge (show i < k by omega) hk)
      · refine mv_aload_n X 2 d_M_cellAt_18 rfl ?_
        refine mv_getr (w := w) X d_M_cellAt_19 f_M_39 (mIs.one hM.1) hM.r113 ?_
        refine mv_iload X 1 d_M_cellAt_22 rfl ?_
        refine mv_iald (x := aI w (ad 113) c1) X d_M_cellAt_24 rfl rfl hM.k113 rfl hc1 (by decide) rfl ?_
        refine mv_istore (lv' := [(4, vI (aI w (ad 113) c1)), (5, vI (nI i)), (0, vR (some o)), (1, vJ x), (3, vI (nI k))]) X d_M_cellAt_25 (by decide) rfl ?_
        refine mv_iinc (v := nI (i + 1)) (lv' := [(5, vI (nI (i + 1))), (4, vI (aI w (ad 113) c1)), (0, vR (some o)), (1, vJ x), (3, vI (nI k))]) X 1 d_M_cellAt_27 rfl (nI_1 i) (by decide) rfl ?_
        refine mv_goto (tgt := 12) X d_M_cellAt_30 (by decide) ?_
        refine mv_sub (lv' := [(5, vI (nI (i + 1))), (4, vI (aI w (ad 113) c1)), (0, vR (some o)), (1, vJ x), (3, vI (nI k))]) [0, 1, 2, 3, 4] rfl ?_
        exact ih (i + 1) Lr _ (by omega) (by simpa using hlt) hch
  have h0 := key k 0 Lc _ (by omega) hlt hch
  exact h0
set_option maxRecDepth 100000 in
set_option maxHeartbeats 4000000 in
theorem k_M_field (l : Launch) (w : mW) (o : Nat) (ad : Nat → Nat) (hM : MS w o ad) (x : Int64) (j k : Nat) (hj : x.toInt32 = nI j ∧ j < 1700) (Lc : List Nat) (hch : lkI (aI w (ad 113)) 5100 (aI w (ad 106) j) Lc) (hlt : k < Lc.length) (hk : k < 2 ^ 31) : mMet l y_M_field c_M_field 4 (some .long) 1 0 0 [vR (some o), vJ x, vI (nI k)] w (fun v w' => v = some (vJ (aJ w (ad 112) ((Lc[k]?).getD 0))) ∧ w = w') := by
  refine mMet.of (by decide) (Nat.le_of_ble_eq_true rfl) ?_
  intro p e s m args below meth c D dA A X
  show mV p l e (mRm 1 0 0) s m args below meth c D dA A 4 w 0 0 _ 0 [(0, vR (some o)), (1, vJ x), (3, vI (nI k))] []
  refine mv_aload_n X 0 d_M_field_0 rfl ?_
  refine mv_getr (w := w) X d_M_field_1 f_M_36 (mIs.one hM.1) hM.r112 ?_
  refine mv_aload_n X 0 d_M_field_4 rfl ?_
  refine mv_lload_n X 1 d_M_field_5 rfl ?_
  refine mv_iload_n X 2 d_M_field_6 rfl ?_
  refine mv_callv X [vJ x, vI (nI k)] [vR (some (ad 112))] (k_M_cellAt l w o ad hM x j k hj Lc hch hlt hk) d_M_field_7 cv_M_66 hM.1 ⟨Nat.le_of_ble_eq_true rfl, Nat.le_of_ble_eq_true rfl⟩ ⟨Nat.le_of_ble_eq_true rfl, Nat.le_of_ble_eq_true rfl⟩ rfl (Nat.le_of_ble_eq_true rfl) (fun v7 w7 hp7 => ?_)
  obtain ⟨rfl, rfl⟩ := hp7
  refine mv_lald (x := aJ w (ad 112) ((Lc[k]?).getD 0)) X d_M_field_10 rfl rfl hM.k112 rfl (lkI_lt hch hlt) (by decide) rfl ?_
  exact mv_ret_j X d_M_field_11 rfl (Nat.le_of_ble_eq_true rfl) (Nat.le_of_ble_eq_true rfl) (⟨rfl, rfl⟩)
set_option maxRecDepth 100000 in
set_option maxHeartbeats 4000000 in
theorem k_M_setField (l : Launch) (w : mW) (o : Nat) (ad : Nat → Nat) (hM : MS w o ad) (x : Int64) (j k : Nat) (hj : x.toInt32 = nI j ∧ j < 1700) (Lc : List Nat) (hch : lkI (aI w (ad 113)) 5100 (aI w (ad 106) j) Lc) (hlt : k < Lc.length) (hk : k < 2 ^ 31) (y : Int64) : mMet l y_M_setField c_M_setField 6 none 1 0 0 [vR (some o), vJ x, vI (nI k), vJ y] w (fun v w' => v = none ∧ w' = xJ w (ad 112) ((Lc[k]?).getD 0) y) := by
  refine mMet.of (by decide) (Nat.le_of_ble_eq_true rfl) ?_
  intro p e s m args below meth c D dA A X
  show mV p l e (mRm 1 0 0) s m args below meth c D dA A 6 w 0 0 _ 0 [(0, vR (some o)), (1, vJ x), (3, vI (nI k)), (4, vJ y)] []
  refine mv_aload_n X 0 d_M_setField_0 rfl ?_
  refine mv_getr (w := w) X d_M_setField_1 f_M_36 (mIs.one hM.1) hM.r112 ?_
  refine mv_aload_n X 0 d_M_setField_4 rfl ?_
  refine mv_lload_n X 1 d_M_setField_5 rfl ?_
  refine mv_iload_n X 2 d_M_setField_6 rfl ?_
  refine mv_callv X [vJ x, vI (nI k)] [vR (some (ad 112))] (k_M_cellAt l w o ad hM x j k hj Lc hch hlt hk) d_M_setField_7 cv_M_66 hM.1 ⟨Nat.le_of_ble_eq_true rfl, Nat.le_of_ble_eq_true rfl⟩ ⟨Nat.le_of_ble_eq_true rfl, Nat.le_of_ble_eq_true rfl⟩ rfl (Nat.le_of_ble_eq_true rfl) (fun v7 w7 hp7 => ?_)
  obtain ⟨rfl, rfl⟩ := hp7
  refine mv_lload X 3 d_M_setField_10 rfl ?_
  refine mv_last X d_M_setField_12 rfl rfl hM.k112 rfl (lkI_lt hch hlt) (by decide) ?_
  exact mv_ret_v X d_M_setField_13 rfl (Nat.le_of_ble_eq_true rfl) (Nat.le_of_ble_eq_true rfl) (⟨rfl, rfl⟩)
set_option maxRecDepth 100000 in
set_option maxHeartbeats 4000000 in
theorem k_M_mark (l : Launch) (w : mW) (o : Nat) (ad : Nat → Nat) (hM : MS w o ad) (x : Int64) (j mk : Nat) (hj : isOb x = true → x.toInt32 = nI j ∧ j < 1700) (hmk : (!isOb x || !decide (aI w (ad 109) j = 0)) = false → gI w 111 o = nI mk ∧ mk < 1700) : mMet l y_M_mark c_M_mark 3 none 2 0 0 [vR (some o), vJ x] w (fun v w' => if (!isOb x || !decide (aI w (ad 109) j = 0)) = true then v = none ∧ w = w' else v = none ∧ w' = sI (xI (xI w (ad 109) j 1) (ad 110) mk (Int64.toInt32 x)) 111 o (nI mk + 1)) := by
  refine mMet.of (by decide) (Nat.le_of_ble_eq_true rfl) ?_
  intro p e s m args below meth c D dA A X
  show mV p l e (mRm 2 0 0) s m args below meth c D dA A 3 w 0 0 _ 0 [(0, vR (some o)), (1, vJ x)] []
  refine mv_aload_n X 0 d_M_mark_0 rfl ?_
  refine mv_lload_n X 1 d_M_mark_1 rfl ?_
  refine mv_callv X [vJ x] [] (k_M_isLive l w o ad hM x j hj) d_M_mark_2 cv_M_88 hM.1 ⟨Nat.le_of_ble_eq_true rfl, Nat.le_of_ble_eq_true rfl⟩ ⟨Nat.le_of_ble_eq_true rfl, Nat.le_of_ble_eq_true rfl⟩ rfl (Nat.le_of_ble_eq_true rfl) (fun v2 w2 hp2 => ?_)
  obtain ⟨rfl, rfl⟩ := hp2
  refine mv_if_eq (tgt := 9) X d_M_mark_5 (by decide) (fun h5 => ?_) (fun h5 => ?_)
  · have hc := bI_0.mp h5
    have hob : isOb x = true := by cases hq : isOb x with | true => rfl | false => rw [hq] at hc; simp at hc
    obtain ⟨hj1, hj2⟩ := hj hob
    obtain ⟨hmk, hmk2⟩ := hmk hc
    refine mv_aload_n X 0 d_M_mark_9 rfl ?_
    refine mv_getr (w := w) X d_M_mark_10 f_M_30 (mIs.one hM.1) hM.r109 ?_
    refine mv_lload_n X 1 d_M_mark_13 rfl ?_
    refine mv_l2i (v := Int64.toInt32 x) X d_M_mark_14 rfl ?_
    refine mv_iconst (v := 1) X d_M_mark_15 (by decide) ?_
    refine mv_zast X d_M_mark_16 rfl rfl hM.k109 hj1 hj2 (by decide) rfl ?_
    refine mv_aload_n X 0 d_M_mark_17 rfl ?_
    refine mv_getr (w := (xI w (ad 109) j 1)) X d_M_mark_18 f_M_33 (mIs.one hM.1) hM.r110 ?_
    refine mv_aload_n X 0 d_M_mark_21 rfl ?_
    refine mv_geti (w := (xI w (ad 109) j 1)) X d_M_mark_22 f_M_91 (mIs.one hM.1) hmk ?_
    refine mv_lload_n X 1 d_M_mark_25 rfl ?_
    refine mv_l2i (v := Int64.toInt32 x) X d_M_mark_26 rfl ?_
    refine mv_iast X d_M_mark_27 rfl rfl hM.k110 rfl hmk2 (by decide) ?_
    refine mv_aload_n X 0 d_M_mark_28 rfl ?_
    refine mv_aload_n X 0 d_M_mark_29 rfl ?_
    refine mv_geti (w := (xI (xI w (ad 109) j 1) (ad 110) mk (Int64.toInt32 x))) X d_M_mark_30 f_M_91 (mIs.one hM.1) hmk ?_
    refine mv_iconst (v := 1) X d_M_mark_33 (by decide) ?_
    refine mv_iadd X d_M_mark_34 ?_
    refine mv_puti X d_M_mark_35 f_M_91 (mIs.one hM.1) rfl rfl ?_
    exact mv_ret_v X d_M_mark_38 rfl (Nat.le_of_ble_eq_true rfl) (Nat.le_of_ble_eq_true rfl) (by rw [if_neg (by rw [hc]; decide)]; exact ⟨rfl, rfl⟩)
  · have hc := bI_ne.mp h5
    exact mv_ret_v X d_M_mark_8 rfl (Nat.le_of_ble_eq_true rfl) (Nat.le_of_ble_eq_true rfl) (by rw [if_pos hc]; exact ⟨rfl, rfl⟩)
