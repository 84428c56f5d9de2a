
theorem enF_cases {w : mW} {ad : Nat → Nat} {Ch : Nat → List Nat} {key : Int64} : ∀ {L : List Nat} {x : Int64}, lkE w ad Ch x L → (enF w ad Ch key L = -1 ∧ ∀ e ∈ L, ¬ fv w ad Ch e 0 = key) ∨ ∃ e, e ∈ L ∧ enF w ad Ch key L = ob e ∧ hC w ad Ch e ∧ (Ch e).length = 3 ∧ fv w ad Ch e 0 = key
  | [], _, _ => Or.inl ⟨rfl, fun e he => by cases he⟩
  | e :: L, _, h => by
    obtain ⟨-, hE, h3, hx⟩ := h
    by_cases hk : fv w ad Ch e 0 = key
    · exact Or.inr ⟨e, List.mem_cons_self, by rw [enF, if_pos hk], hE, h3, hk⟩
    · rcases enF_cases (key := key) hx with ⟨h1, h2⟩ | ⟨e1, m, h1, h2⟩
      · refine Or.inl ⟨by rw [enF, if_neg hk]; exact h1, fun e' he => ?_⟩
        rcases List.mem_cons.mp he with rfl | he
        · exact hk
        · exact h2 e' he
      · exact Or.inr ⟨e1, List.mem_cons_of_mem _ m, by rw [enF, if_neg hk]; exact h1, h2⟩
theorem ob_ix {x : Int64} {t : Nat} (h : x = ob t ∧ t < 1700) : x.toInt32 = nI t ∧ t < 1700 := by
  rw [h.1]
  exact ⟨(ob_all t h.2).1, h.2⟩
set_option maxRecDepth 100000 in
set_option maxHeartbeats 4000000 in
theorem k_M_find (l : Launch) (w : mW) (o : Nat) (ad : Nat → Nat) (hM : MS w o ad) (r q k : Int32) (Ch : Nat → List Nat) (L : List Nat) (t : Nat) (ht0 : isRg q = true → isOb (aJ w (ad 101) (rN q)) = true → aJ w (ad 101) (rN q) = ob t ∧ t < 1700) (hT : isRg q = true → isOb (aJ w (ad 101) (rN q)) = true → aI w (ad 104) t = 4 → hC w ad Ch t ∧ 0 < (Ch t).length ∧ lkE w ad Ch (fv w ad Ch t 0) L) : mMet l y_M_find c_M_find 6 (some .int) 3 0 0 [vR (some o), vI r, vI q, vI k] w (fun v w' => if isRg r = true ∧ isRg q = true ∧ isRg k = true ∧ (isOb (aJ w (ad 101) (rN q)) && decide (aI w (ad 104) t = 4)) = true then ((enF w ad Ch (aJ w (ad 101) (rN k)) L = -1 ∧ (∀ e ∈ L, ¬ fv w ad Ch e 0 = aJ w (ad 101) (rN k)) ∧ v = some (vI 0) ∧ w = w') ∨ (∃ e, e ∈ L ∧ enF w ad Ch (aJ w (ad 101) (rN k)) L = ob e ∧ fv w ad Ch e 0 = aJ w (ad 101) (rN k) ∧ v = some (vI 1) ∧ w' = xJ w (ad 101) (rN r) (fv w ad Ch e 1))) else v = some (vI (-1)) ∧ w = w') := by
  refine mMet.of (by decide) (Nat.le_of_ble_eq_true rfl) ?_
  intro p e s m args below meth c D dA A X
  show mV p l e (mRm 3 0 0) s m args below meth c D dA A 6 w 0 0 _ 0 [(0, vR (some o)), (1, vI r), (2, vI q), (3, vI k)] []
  refine mv_iload_n X 1 d_M_find_0 rfl ?_
  refine mv_calls X [vI r] [] (k_M_isRegister l w r) d_M_find_1 cs_M_137 ⟨Nat.le_of_ble_eq_true rfl, Nat.le_of_ble_eq_true rfl⟩ ⟨Nat.le_of_ble_eq_true rfl, Nat.le_of_ble_eq_true rfl⟩ rfl (Nat.le_of_ble_eq_true rfl) (fun v1 w1 hp1 => ?_)
  obtain ⟨rfl, rfl⟩ := hp1
  refine mv_if_eq (tgt := 35) X d_M_find_4 (by decide) (fun h4 => ?_) (fun h4 => ?_)
  · refine mv_iconst (v := (-1)) X d_M_find_35 (by decide) ?_
    exact mv_ret_i (Post := _) X d_M_find_36 rfl rfl (Nat.le_of_ble_eq_true rfl) (Nat.le_of_ble_eq_true rfl) (by rw [if_neg (fun z => bI_nt h4 z.1)]; exact ⟨rfl, rfl⟩)
  · refine mv_iload_n X 2 d_M_find_7 rfl ?_
    refine mv_calls X [vI q] [] (k_M_isRegister l w q) d_M_find_8 cs_M_137 ⟨Nat.le_of_ble_eq_true rfl, Nat.le_of_ble_eq_true rfl⟩ ⟨Nat.le_of_ble_eq_true rfl, Nat.le_of_ble_eq_true rfl⟩ rfl (Nat.le_of_ble_eq_true rfl) (fun v8 w8 hp8 => ?_)
    obtain ⟨rfl, rfl⟩ := hp8
    refine mv_if_eq (tgt := 35) X d_M_find_11 (by decide) (fun h11 => ?_) (fun h11 => ?_)
    · refine mv_iconst (v := (-1)) X d_M_find_35 (by decide) ?_
      exact mv_ret_i (Post := _) X d_M_find_36 rfl rfl (Nat.le_of_ble_eq_true rfl) (Nat.le_of_ble_eq_true rfl) (by rw [if_neg (fun z => bI_nt h11 z.2.1)]; exact ⟨rfl, rfl⟩)
    · refine mv_iload_n X 3 d_M_find_14 rfl ?_
      refine mv_calls X [vI k] [] (k_M_isRegister l w k) d_M_find_15 cs_M_137 ⟨Nat.le_of_ble_eq_true rfl, Nat.le_of_ble_eq_true rfl⟩ ⟨Nat.le_of_ble_eq_true rfl, Nat.le_of_ble_eq_true rfl⟩ rfl (Nat.le_of_ble_eq_true rfl) (fun v15 w15 hp15 => ?_)
      obtain ⟨rfl, rfl⟩ := hp15
      refine mv_if_eq (tgt := 35) X d_M_find_18 (by decide) (fun h18 => ?_) (fun h18 => ?_)
      · refine mv_iconst (v := (-1)) X d_M_find_35 (by decide) ?_
        exact mv_ret_i (Post := _) X d_M_find_36 rfl rfl (Nat.le_of_ble_eq_true rfl) (Nat.le_of_ble_eq_true rfl) (by rw [if_neg (fun z => bI_nt h18 z.2.2.1)]; exact ⟨rfl, rfl⟩)
      · refine mv_aload_n X 0 d_M_find_21 rfl ?_
        refine mv_aload_n X 0 d_M_find_22 rfl ?_
        refine mv_getr (w := w) X d_M_find_23 f_M_7 (mIs.one hM.1) hM.r101 ?_
        refine mv_iload_n X 2 d_M_find_26 rfl ?_
        refine mv_lald (x := aJ w (ad 101) (rN q)) X d_M_find_27 rfl rfl hM.k101 ((isRg_nI (bI_ne.mp h11)).1) ((isRg_nI (bI_ne.mp h11)).2) (by decide) rfl ?_
        refine mv_iconst (v := 4) X d_M_find_28 (by decide) ?_
        refine mv_callv X [vJ (aJ w (ad 101) (rN q)), vI 4] [] (k_M_is l w o ad hM (aJ w (ad 101) (rN q)) 4 t (fun z => ob_ix (ht0 (bI_ne.mp h11) z))) d_M_find_29 cv_M_154 hM.1 ⟨Nat.le_of_ble_eq_true rfl, Nat.le_of_ble_eq_true rfl⟩ ⟨Nat.le_of_ble_eq_true rfl, Nat.le_of_ble_eq_true rfl⟩ rfl (Nat.le_of_ble_eq_true rfl) (fun v29 w29 hp29 => ?_)
        obtain ⟨rfl, rfl⟩ := hp29
        refine mv_if_ne (tgt := 37) X d_M_find_32 (by decide) (fun h32 => ?_) (fun h32 => ?_)
        · have hb := bI_ne.mp h32
          rw [Bool.and_eq_true, decide_eq_true_eq] at hb
          obtain ⟨hvq, ht17⟩ := ht0 (bI_ne.mp h11) hb.1
          obtain ⟨htC, ht1, hL⟩ := hT (bI_ne.mp h11) hb.1 hb.2
          refine mv_aload_n X 0 d_M_find_37 rfl ?_
          refine mv_aload_n X 0 d_M_find_38 rfl ?_
          refine mv_getr (w := w) X d_M_find_39 f_M_7 (mIs.one hM.1) hM.r101 ?_
          refine mv_iload_n X 2 d_M_find_42 rfl ?_
          refine mv_lald (x := ob t) X d_M_find_43 rfl rfl hM.k101 ((isRg_nI (bI_ne.mp h11)).1) ((isRg_nI (bI_ne.mp h11)).2) (by decide) hvq ?_
          refine mv_aload_n X 0 d_M_find_44 rfl ?_
          refine mv_getr (w := w) X d_M_find_45 f_M_7 (mIs.one hM.1) hM.r101 ?_
          refine mv_iload_n X 3 d_M_find_48 rfl ?_
          refine mv_lald (x := aJ w (ad 101) (rN k)) X d_M_find_49 rfl rfl hM.k101 ((isRg_nI (bI_ne.mp h18)).1) ((isRg_nI (bI_ne.mp h18)).2) (by decide) rfl ?_
          refine mv_callv X [vJ (ob t), vJ (aJ w (ad 101) (rN k))] [] (k_M_entryOf l w o ad hM Ch t htC ht1 L hL (aJ w (ad 101) (rN k))) d_M_find_50 cv_M_158 hM.1 ⟨Nat.le_of_ble_eq_true rfl, Nat.le_of_ble_eq_true rfl⟩ ⟨Nat.le_of_ble_eq_true rfl, Nat.le_of_ble_eq_true rfl⟩ rfl (Nat.le_of_ble_eq_true rfl) (fun v50 w50 hp50 => ?_)
          obtain ⟨rfl, rfl⟩ := hp50
          rcases enF_cases (key := aJ w (ad 101) (rN k)) hL with ⟨hno, hno2⟩ | ⟨e1, hmem, hen, hE, h3, hkey⟩
          · rw [hno]
            refine mv_lstore (lv' := [(4, vJ (-1)), (0, vR (some o)), (1, vI r), (2, vI q), (3, vI k)]) X d_M_find_53 (by decide) rfl ?_
            refine mv_lload X 0 d_M_find_55 rfl ?_
            refine mv_ldc2 (v := (-1)) X d_M_find_57 (mA (by decide +kernel) (by decide +kernel)) ?_
            refine mv_lcmp X d_M_find_60 ?_
            refine mv_if_ne (tgt := 66) X d_M_find_61 (by decide) (fun h61 => ?_) (fun h61 => ?_)
            · exact absurd (lgy rfl) h61
            · refine mv_iconst (v := 0) X d_M_find_64 (by decide) ?_
              exact mv_ret_i (Post := _) X d_M_find_65 rfl rfl (Nat.le_of_ble_eq_true rfl) (Nat.le_of_ble_eq_true rfl) (by rw [if_pos ⟨bI_ne.mp h4, bI_ne.mp h11, bI_ne.mp h18, bI_ne.mp h32⟩]; exact Or.inl ⟨rfl, hno2, rfl, rfl⟩)
          · rw [hen]
            refine mv_lstore (lv' := [(4, vJ (ob e1)), (0, vR (some o)), (1, vI r), (2, vI q), (3, vI k)]) X d_M_find_53 (by decide) rfl ?_
            refine mv_lload X 0 d_M_find_55 rfl ?_
            refine mv_ldc2 (v := (-1)) X d_M_find_57 (mA (by decide +kernel) (by decide +kernel)) ?_
            refine mv_lcmp X d_M_find_60 ?_
            refine mv_if_ne (tgt := 66) X d_M_find_61 (by decide) (fun h61 => ?_) (fun h61 => ?_)
            · refine mv_aload_n X 1 d_M_find_66 rfl ?_
              refine mv_getr (w := w) X d_M_find_67 f_M_7 (mIs.one hM.1) hM.r101 ?_
              refine mv_iload_n X 2 d_M_find_70 rfl ?_
              refine mv_aload_n X 1 d_M_find_71 rfl ?_
              refine mv_lload X 0 d_M_find_72 rfl ?_
              refine mv_iconst (v := 1) X d_M_find_74 (by decide) ?_
              refine mv_callv X [vJ (ob e1), vI 1] [vI r, vR (some (ad 101))] (k_M_fieldO l w o ad hM Ch e1 1 hE (by omega) (by decide)) d_M_find_75 cv_M_98 hM.1 ⟨Nat.le_of_ble_eq_true rfl, Nat.le_of_ble_eq_true rfl⟩ ⟨Nat.le_of_ble_eq_true rfl, Nat.le_of_ble_eq_true rfl⟩ rfl (Nat.le_of_ble_eq_true rfl) (fun v75 w75 hp75 => ?_)
              obtain ⟨rfl, rfl⟩ := hp75
              refine mv_last X d_M_find_78 rfl rfl hM.k101 ((isRg_nI (bI_ne.mp h4)).1) ((isRg_nI (bI_ne.mp h4)).2) (by decide) ?_
              refine mv_iconst (v := 1) X d_M_find_79 (by decide) ?_
              exact mv_ret_i (Post := _) X d_M_find_80 rfl rfl (Nat.le_of_ble_eq_true rfl) (Nat.le_of_ble_eq_true rfl) (by rw [if_pos ⟨bI_ne.mp h4, bI_ne.mp h11, bI_ne.mp h18, bI_ne.mp h32⟩]; exact Or.inr ⟨e1, hmem, rfl, hkey, rfl, rfl⟩)
            · exact absurd h61 (lgn (ob_all e1 hE.1).2.2)
        · refine mv_iconst (v := (-1)) X d_M_find_35 (by decide) ?_
          exact mv_ret_i (Post := _) X d_M_find_36 rfl rfl (Nat.le_of_ble_eq_true rfl) (Nat.le_of_ble_eq_true rfl) (by rw [if_neg (fun z => bI_nt h32 z.2.2.2)]; exact ⟨rfl, rfl⟩)
set_option maxRecDepth 100000 in
set_option maxHeartbeats 4000000 in
theorem k_M_set (l : Launch) (w : mW) (o : Nat) (ad : Nat → Nat) (hM : MS w o ad) (q k u : Int32) (Ch : Nat → List Nat) (t : Nat) (ht0 : isRg q = true → isOb (aJ w (ad 101) (rN q)) = true → aJ w (ad 101) (rN q) = ob t ∧ t < 1700) (hT : isRg q = true → isOb (aJ w (ad 101) (rN q)) = true → hC w ad Ch t ∧ aI w (ad 105) t = nI (Ch t).length ∧ (Ch t).length < 2 ^ 31) : mMet l y_M_set c_M_set 4 (some .boolean) 2 0 0 [vR (some o), vI q, vI k, vI u] w (fun v w' => if isRg q = true ∧ isRg u = true ∧ isOb (aJ w (ad 101) (rN q)) = true ∧ (aI w (ad 104) t = 0 ∨ aI w (ad 104) t = 1) ∧ ¬ k < 0 ∧ k < aI w (ad 105) t then v = some (vI 1) ∧ w' = xJ w (ad 112) (((Ch t)[rN k]?).getD 0) (aJ w (ad 101) (rN u)) else v = some (vI 0) ∧ w = w') := by
  refine mMet.of (by decide) (Nat.le_of_ble_eq_true rfl) ?_
  intro p e s m args below meth c D dA A X
  show mV p l e (mRm 2 0 0) s m args below meth c D dA A 4 w 0 0 _ 0 [(0, vR (some o)), (1, vI q), (2, vI k), (3, vI u)] []
  refine mv_iload_n X 1 d_M_set_0 rfl ?_
  refine mv_calls X [vI q] [] (k_M_isRegister l w q) d_M_set_1 cs_M_137 ⟨Nat.le_of_ble_eq_true rfl, Nat.le_of_ble_eq_true rfl⟩ ⟨Nat.le_of_ble_eq_true rfl, Nat.le_of_ble_eq_true rfl⟩ rfl (Nat.le_of_ble_eq_true rfl) (fun v1 w1 hp1 => ?_)
  obtain ⟨rfl, rfl⟩ := hp1
  refine mv_if_eq (tgt := 62) X d_M_set_4 (by decide) (fun h4 => ?_) (fun h4 => ?_)
  · refine mv_iconst (v := 0) X d_M_set_62 (by decide) ?_
    exact mv_ret_i (Post := _) X d_M_set_63 rfl (by rfl) (Nat.le_of_ble_eq_true rfl) (Nat.le_of_ble_eq_true rfl) (by rw [if_neg (fun z => bI_nt h4 z.1)]; exact ⟨rfl, rfl⟩)
  · refine mv_iload_n X 3 d_M_set_7 rfl ?_
    refine mv_calls X [vI u] [] (k_M_isRegister l w u) d_M_set_8 cs_M_137 ⟨Nat.le_of_ble_eq_true rfl, Nat.le_of_ble_eq_true rfl⟩ ⟨Nat.le_of_ble_eq_true rfl, Nat.le_of_ble_eq_true rfl⟩ rfl (Nat.le_of_ble_eq_true rfl) (fun v8 w8 hp8 => ?_)
    obtain ⟨rfl, rfl⟩ := hp8
    refine mv_if_eq (tgt := 62) X d_M_set_11 (by decide) (fun h11 => ?_) (fun h11 => ?_)
    · refine mv_iconst (v := 0) X d_M_set_62 (by decide) ?_
      exact mv_ret_i (Post := _) X d_M_set_63 rfl (by rfl) (Nat.le_of_ble_eq_true rfl) (Nat.le_of_ble_eq_true rfl) (by rw [if_neg (fun z => bI_nt h11 z.2.1)]; exact ⟨rfl, rfl⟩)
    · refine mv_aload_n X 0 d_M_set_14 rfl ?_
      refine mv_aload_n X 0 d_M_set_15 rfl ?_
      refine mv_getr (w := w) X d_M_set_16 f_M_7 (mIs.one hM.1) hM.r101 ?_
      refine mv_iload_n X 1 d_M_set_19 rfl ?_
      refine mv_lald (x := aJ w (ad 101) (rN q)) X d_M_set_20 rfl rfl hM.k101 ((isRg_nI (bI_ne.mp h4)).1) ((isRg_nI (bI_ne.mp h4)).2) (by decide) rfl ?_
      refine mv_iconst (v := 0) X d_M_set_21 (by decide) ?_
      refine mv_callv X [vJ (aJ w (ad 101) (rN q)), vI 0] [] (k_M_is l w o ad hM (aJ w (ad 101) (rN q)) 0 t (fun z => ob_ix (ht0 (bI_ne.mp h4) z))) d_M_set_22 cv_M_154 hM.1 ⟨Nat.le_of_ble_eq_true rfl, Nat.le_of_ble_eq_true rfl⟩ ⟨Nat.le_of_ble_eq_true rfl, Nat.le_of_ble_eq_true rfl⟩ rfl (Nat.le_of_ble_eq_true rfl) (fun v22 w22 hp22 => ?_)
      obtain ⟨rfl, rfl⟩ := hp22
      refine mv_if_ne (tgt := 42) X d_M_set_25 (by decide) (fun h25 => ?_) (fun h25 => ?_)
      · have hb := bI_ne.mp h25
        rw [Bool.and_eq_true, decide_eq_true_eq] at hb
        obtain ⟨hvq, ht17⟩ := ht0 (bI_ne.mp h4) hb.1
        obtain ⟨htC, hmy, hLc⟩ := hT (bI_ne.mp h4) hb.1
        have hk01 : aI w (ad 104) t = 0 ∨ aI w (ad 104) t = 1 := Or.inl hb.2
        refine mv_iload_n X 2 d_M_set_42 rfl ?_
        refine mv_if_lt (tgt := 62) X d_M_set_43 (by decide) (fun h43 => ?_) (fun h43 => ?_)
        · refine mv_iconst (v := 0) X d_M_set_62 (by decide) ?_
          exact mv_ret_i (Post := _) X d_M_set_63 rfl (by rfl) (Nat.le_of_ble_eq_true rfl) (Nat.le_of_ble_eq_true rfl) (by rw [if_neg (fun z => z.2.2.2.2.1 h43)]; exact ⟨rfl, rfl⟩)
        · obtain ⟨kk, hkk, rfl⟩ := nI_of h43
          refine mv_iload_n X 2 d_M_set_46 rfl ?_
          refine mv_aload_n X 0 d_M_set_47 rfl ?_
          refine mv_getr (w := w) X d_M_set_48 f_M_17 (mIs.one hM.1) hM.r105 ?_
          refine mv_aload_n X 0 d_M_set_51 rfl ?_
          refine mv_getr (w := w) X d_M_set_52 f_M_7 (mIs.one hM.1) hM.r101 ?_
          refine mv_iload_n X 1 d_M_set_55 rfl ?_
          refine mv_lald (x := ob t) X d_M_set_56 rfl rfl hM.k101 ((isRg_nI (bI_ne.mp h4)).1) ((isRg_nI (bI_ne.mp h4)).2) (by decide) hvq ?_
          refine mv_l2i (v := Int64.toInt32 (ob t)) X d_M_set_57 rfl ?_
          refine mv_iald (x := nI (Ch t).length) X d_M_set_58 rfl rfl hM.k105 ((ob_all t ht17).1) ht17 (by decide) hmy ?_
          refine mv_icmp_lt (tgt := 64) X d_M_set_59 (by decide) (fun h59 => ?_) (fun h59 => ?_)
          · have hlt : kk < (Ch t).length := (nI_ltI hkk hLc).mp h59
            refine mv_aload_n X 0 d_M_set_64 rfl ?_
            refine mv_aload_n X 0 d_M_set_65 rfl ?_
            refine mv_getr (w := w) X d_M_set_66 f_M_7 (mIs.one hM.1) hM.r101 ?_
            refine mv_iload_n X 1 d_M_set_69 rfl ?_
            refine mv_lald (x := ob t) X d_M_set_70 rfl rfl hM.k101 ((isRg_nI (bI_ne.mp h4)).1) ((isRg_nI (bI_ne.mp h4)).2) (by decide) hvq ?_
            refine mv_iload_n X 2 d_M_set_71 rfl ?_
            refine mv_aload_n X 0 d_M_set_72 rfl ?_
            refine mv_getr (w := w) X d_M_set_73 f_M_7 (mIs.one hM.1) hM.r101 ?_
            refine mv_iload_n X 3 d_M_set_76 rfl ?_
            refine mv_lald (x := aJ w (ad 101) (rN u)) X d_M_set_77 rfl rfl hM.k101 ((isRg_nI (bI_ne.mp h11)).1) ((isRg_nI (bI_ne.mp h11)).2) (by decide) rfl ?_
            refine mv_callv X [vJ (ob t), vI (nI kk), vJ (aJ w (ad 101) (rN u))] [] (k_M_setFieldO l w o ad hM Ch t kk htC hlt hkk (aJ w (ad 101) (rN u))) d_M_set_78 cv_M_120 hM.1 ⟨Nat.le_of_ble_eq_true rfl, Nat.le_of_ble_eq_true rfl⟩ ⟨Nat.le_of_ble_eq_true rfl, Nat.le_of_ble_eq_true rfl⟩ rfl (Nat.le_of_ble_eq_true rfl) (fun v78 w78 hp78 => ?_)
            obtain ⟨rfl, rfl⟩ := hp78
            refine mv_iconst (v := 1) X d_M_set_81 (by decide) ?_
            exact mv_ret_i (Post := _) X d_M_set_82 rfl (by rfl) (Nat.le_of_ble_eq_true rfl) (Nat.le_of_ble_eq_true rfl) (by rw [if_pos ⟨bI_ne.mp h4, bI_ne.mp h11, hb.1, hk01, h43, by rw [hmy]; exact h59⟩, show rN (nI kk) = kk from nI_clamp hkk]; exact ⟨rfl, rfl⟩)
          · refine mv_iconst (v := 0) X d_M_set_62 (by decide) ?_
            exact mv_ret_i (Post := _) X d_M_set_63 rfl (by rfl) (Nat.le_of_ble_eq_true rfl) (Nat.le_of_ble_eq_true rfl) (by rw [if_neg (fun z => h59 (by rw [← hmy]; exact z.2.2.2.2.2))]; exact ⟨rfl, rfl⟩)
      · have h25b := h25
        refine mv_aload_n X 0 d_M_set_28 rfl ?_
        refine mv_aload_n X 0 d_M_set_29 rfl ?_
        refine mv_getr (w := w) X d_M_set_30 f_M_7 (mIs.one hM.1) hM.r101 ?_
        refine mv_iload_n X 1 d_M_set_33 rfl ?_
        refine mv_lald (x := aJ w (ad 101) (rN q)) X d_M_set_34 rfl rfl hM.k101 ((isRg_nI (bI_ne.mp h4)).1) ((isRg_nI (bI_ne.mp h4)).2) (by decide) rfl ?_
        refine mv_iconst (v := 1) X d_M_set_35 (by decide) ?_
        refine mv_callv X [vJ (aJ w (ad 101) (rN q)), vI 1] [] (k_M_is l w o ad hM (aJ w (ad 101) (rN q)) 1 t (fun z => ob_ix (ht0 (bI_ne.mp h4) z))) d_M_set_36 cv_M_154 hM.1 ⟨Nat.le_of_ble_eq_true rfl, Nat.le_of_ble_eq_true rfl⟩ ⟨Nat.le_of_ble_eq_true rfl, Nat.le_of_ble_eq_true rfl⟩ rfl (Nat.le_of_ble_eq_true rfl) (fun v36 w36 hp36 => ?_)
        obtain ⟨rfl, rfl⟩ := hp36
        refine mv_if_eq (tgt := 62) X d_M_set_39 (by decide) (fun h39 => ?_) (fun h39 => ?_)
        · refine mv_iconst (v := 0) X d_M_set_62 (by decide) ?_
          exact mv_ret_i (Post := _) X d_M_set_63 rfl (by rfl) (Nat.le_of_ble_eq_true rfl) (Nat.le_of_ble_eq_true rfl) (by rw [if_neg (fun z => z.2.2.2.1.elim (fun y => bI_nt h25b (by rw [z.2.2.1, y]; rfl)) (fun y => bI_nt h39 (by rw [z.2.2.1, y]; rfl)))]; exact ⟨rfl, rfl⟩)
        · have hb := bI_ne.mp h39
          rw [Bool.and_eq_true, decide_eq_true_eq] at hb
          obtain ⟨hvq, ht17⟩ := ht0 (bI_ne.mp h4) hb.1
          obtain ⟨htC, hmy, hLc⟩ := hT (bI_ne.mp h4) hb.1
          have hk01 : aI w (ad 104) t = 0 ∨ aI w (ad 104) t = 1 := Or.inr hb.2
          refine mv_iload_n X 2 d_M_set_42 rfl ?_
          refine mv_if_lt (tgt := 62) X d_M_set_43 (by decide) (fun h43 => ?_) (fun h43 => ?_)
          · refine mv_iconst (v := 0) X d_M_set_62 (by decide) ?_
            exact mv_ret_i (Post := _) X d_M_set_63 rfl (by rfl) (Nat.le_of_ble_eq_true rfl) (Nat.le_of_ble_eq_true rfl) (by rw [if_neg (fun z => z.2.2.2.2.1 h43)]; exact ⟨rfl, rfl⟩)
          · obtain ⟨kk, hkk, rfl⟩ := nI_of h43
            refine mv_iload_n X 2 d_M_set_46 rfl ?_
            refine mv_aload_n X 0 d_M_set_47 rfl ?_
            refine mv_getr (w := w) X d_M_set_48 f_M_17 (mIs.one hM.1) hM.r105 ?_
            refine mv_aload_n X 0 d_M_set_51 rfl ?_
            refine mv_getr (w := w) X d_M_set_52 f_M_7 (mIs.one hM.1) hM.r101 ?_
            refine mv_iload_n X 1 d_M_set_55 rfl ?_
            refine mv_lald (x := ob t) X d_M_set_56 rfl rfl hM.k101 ((isRg_nI (bI_ne.mp h4)).1) ((isRg_nI (bI_ne.mp h4)).2) (by decide) hvq ?_
            refine mv_l2i (v := Int64.toInt32 (ob t)) X d_M_set_57 rfl ?_
            refine mv_iald (x := nI (Ch t).length) X d_M_set_58 rfl rfl hM.k105 ((ob_all t ht17).1) ht17 (by decide) hmy ?_
            refine mv_icmp_lt (tgt := 64) X d_M_set_59 (by decide) (fun h59 => ?_) (fun h59 => ?_)
            · have hlt : kk < (Ch t).length := (nI_ltI hkk hLc).mp h59
              refine mv_aload_n X 0 d_M_set_64 rfl ?_
              refine mv_aload_n X 0 d_M_set_65 rfl ?_
              refine mv_getr (w := w) X d_M_set_66 f_M_7 (mIs.one hM.1) hM.r101 ?_
              refine mv_iload_n X 1 d_M_set_69 rfl ?_
              refine mv_lald (x := ob t) X d_M_set_70 rfl rfl hM.k101 ((isRg_nI (bI_ne.mp h4)).1) ((isRg_nI (bI_ne.mp h4)).2) (by decide) hvq ?_
              refine mv_iload_n X 2 d_M_set_71 rfl ?_
              refine mv_aload_n X 0 d_M_set_72 rfl ?_
              refine mv_getr (w := w) X d_M_set_73 f_M_7 (mIs.one hM.1) hM.r101 ?_
              refine mv_iload_n X 3 d_M_set_76 rfl ?_
              refine mv_lald (x := aJ w (ad 101) (rN u)) X d_M_set_77 rfl rfl hM.k101 ((isRg_nI (bI_ne.mp h11)).1) ((isRg_nI (bI_ne.mp h11)).2) (by decide) rfl ?_
              refine mv_callv X [vJ (ob t), vI (nI kk), vJ (aJ w (ad 101) (rN u))] [] (k_M_setFieldO l w o ad hM Ch t kk htC hlt hkk (aJ w (ad 101) (rN u))) d_M_set_78 cv_M_120 hM.1 ⟨Nat.le_of_ble_eq_true rfl, Nat.le_of_ble_eq_true rfl⟩ ⟨Nat.le_of_ble_eq_true rfl, Nat.le_of_ble_eq_true rfl⟩ rfl (Nat.le_of_ble_eq_true rfl) (fun v78 w78 hp78 => ?_)
              obtain ⟨rfl, rfl⟩ := hp78
              refine mv_iconst (v := 1) X d_M_set_81 (by decide) ?_
              exact mv_ret_i (Post := _) X d_M_set_82 rfl (by rfl) (Nat.le_of_ble_eq_true rfl) (Nat.le_of_ble_eq_true rfl) (by rw [if_pos ⟨bI_ne.mp h4, bI_ne.mp h11, hb.1, hk01, h43, by rw [hmy]; exact h59⟩, show rN (nI kk) = kk from nI_clamp hkk]; exact ⟨rfl, rfl⟩)
            · refine mv_iconst (v := 0) X d_M_set_62 (by decide) ?_
              exact mv_ret_i (Post := _) X d_M_set_63 rfl (by rfl) (Nat.le_of_ble_eq_true rfl) (Nat.le_of_ble_eq_true rfl) (by rw [if_neg (fun z => h59 (by rw [← hmy]; exact z.2.2.2.2.2))]; exact ⟨rfl, rfl⟩)
