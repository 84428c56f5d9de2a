set_option maxRecDepth 100000 in
set_option maxHeartbeats 4000000 in
theorem k_M_add (l : Launch) (w : mW) (o : Nat) (ad : Nat → Nat) (hM : MS w o ad) (k : Int32) (N : Nat) (x : Int64) (i0 : Nat) (hi0 : i0 < 1700) (hfree : aI w (ad 108) i0 = 0) (hbef : ∀ i, i < i0 → aI w (ad 108) i = 1) (P Fr : List Nat) (hch : lkI (aI w (ad 113)) 5100 (gI w 114 o) (P ++ Fr)) (hnd : (P ++ Fr).Nodup) (hlen : P.length = N) (hN : N ≤ 100) : mMet l y_M_add c_M_add 8 (some .long) 1 0 0 [vR (some o), vI k, vI (nI N), vJ x] w (fun v w' => v = some (vJ (ob i0)) ∧ w' = sI (sI (adL ad o i0 x (xI (xI (xI (xI (xI w (ad 104) i0 k) (ad 105) i0 (nI N)) (ad 107) i0 0) (ad 108) i0 1) (ad 106) i0 (-1)) P) 102 o (gI (xI (xI (xI (xI (xI w (ad 104) i0 k) (ad 105) i0 (nI N)) (ad 107) i0 0) (ad 108) i0 1) (ad 106) i0 (-1)) 102 o + cOf k (nI N))) 103 o (gI (xI (xI (xI (xI (xI w (ad 104) i0 k) (ad 105) i0 (nI N)) (ad 107) i0 0) (ad 108) i0 1) (ad 106) i0 (-1)) 103 o + 1)) := by
  refine mMet.of (by decide) (Nat.le_of_ble_eq_true rfl) ?_
  intro p e s m args below meth c D dA A X
  show mV p l e (mRm 1 0 0) s m args below meth c D dA A 8 w 0 0 _ 0 [(0, vR (some o)), (1, vI k), (2, vI (nI N)), (3, vJ x)] []
  refine mv_iconst (v := 0) X d_M_add_0 (by decide) ?_
  refine mv_istore (lv' := [(5, vI 0), (0, vR (some o)), (1, vI k), (2, vI (nI N)), (3, vJ x)]) X d_M_add_1 (by decide) rfl ?_
  have key : ∀ (n i : Nat), n + i = i0 → mV p l e (mRm 1 0 0) s m args below meth c D dA A 8 w 0 0 (MQ below (mQ D dA A (fun v w' => v = some (vJ (ob i0)) ∧ w' = sI (sI (adL ad o i0 x (xI (xI (xI (xI (xI w (ad 104) i0 k) (ad 105) i0 (nI N)) (ad 107) i0 0) (ad 108) i0 1) (ad 106) i0 (-1)) P) 102 o (gI (xI (xI (xI (xI (xI w (ad 104) i0 k) (ad 105) i0 (nI N)) (ad 107) i0 0) (ad 108) i0 1) (ad 106) i0 (-1)) 102 o + cOf k (nI N))) 103 o (gI (xI (xI (xI (xI (xI w (ad 104) i0 k) (ad 105) i0 (nI N)) (ad 107) i0 0) (ad 108) i0 1) (ad 106) i0 (-1)) 103 o + 1))) args s 0 0 A) 3 [(5, vI (nI i)), (0, vR (some o)), (1, vI k), (2, vI (nI N)), (3, vJ x)] [] := by
    intro n
    induction n with
    | zero =>
      intro i hn
      obtain rfl : i = i0 := by omega
      refine mv_aload_n X 1 d_M_add_3 rfl ?_
      refine mv_getr (w := w) X d_M_add_4 f_M_26 (mIs.one hM.1) hM.r108 ?_
      refine mv_iload X 0 d_M_add_7 rfl ?_
      refine mv_zald (x := 0) X d_M_add_9 rfl rfl hM.k108 rfl hi0 (by decide) hfree ?_
      refine mv_if_eq (tgt := 22) X d_M_add_10 (by decide) (fun h10 => ?_) (fun h10 => ?_)
      · refine mv_aload_n X 1 d_M_add_22 rfl ?_
        refine mv_getr (w := w) X d_M_add_23 f_M_13 (mIs.one hM.1) hM.r104 ?_
        refine mv_iload X 0 d_M_add_26 rfl ?_
        refine mv_iload_n X 2 d_M_add_28 rfl ?_
        refine mv_iast X d_M_add_29 rfl rfl hM.k104 rfl hi0 (by decide) ?_
        refine mv_aload_n X 1 d_M_add_30 rfl ?_
        refine mv_getr (w := (xI w (ad 104) i k)) X d_M_add_31 f_M_17 (mIs.one hM.1) hM.r105 ?_
        refine mv_iload X 0 d_M_add_34 rfl ?_
        refine mv_iload_n X 3 d_M_add_36 rfl ?_
        refine mv_iast X d_M_add_37 rfl rfl hM.k105 rfl hi0 (by decide) ?_
        refine mv_aload_n X 1 d_M_add_38 rfl ?_
        refine mv_getr (w := (xI (xI w (ad 104) i k) (ad 105) i (nI N))) X d_M_add_39 f_M_23 (mIs.one hM.1) hM.r107 ?_
        refine mv_iload X 0 d_M_add_42 rfl ?_
        refine mv_iconst (v := 0) X d_M_add_44 (by decide) ?_
        refine mv_iast X d_M_add_45 rfl rfl hM.k107 rfl hi0 (by decide) ?_
        refine mv_aload_n X 1 d_M_add_46 rfl ?_
        refine mv_getr (w := (xI (xI (xI w (ad 104) i k) (ad 105) i (nI N)) (ad 107) i 0)) X d_M_add_47 f_M_26 (mIs.one hM.1) hM.r108 ?_
        refine mv_iload X 0 d_M_add_50 rfl ?_
        refine mv_iconst (v := 1) X d_M_add_52 (by decide) ?_
        refine mv_zast X d_M_add_53 rfl rfl hM.k108 rfl hi0 (by decide) rfl ?_
        refine mv_aload_n X 1 d_M_add_54 rfl ?_
        refine mv_getr (w := (xI (xI (xI (xI w (ad 104) i k) (ad 105) i (nI N)) (ad 107) i 0) (ad 108) i 1)) X d_M_add_55 f_M_20 (mIs.one hM.1) hM.r106 ?_
        refine mv_iload X 0 d_M_add_58 rfl ?_
        refine mv_iconst (v := (-1)) X d_M_add_60 (by decide) ?_
        refine mv_iast X d_M_add_61 rfl rfl hM.k106 rfl hi0 (by decide) ?_
        refine mv_iconst (v := 0) X d_M_add_62 (by decide) ?_
        refine mv_istore (lv' := [(6, vI 0), (5, vI (nI i)), (0, vR (some o)), (1, vI k), (2, vI (nI N)), (3, vJ x)]) X d_M_add_63 (by decide) rfl ?_
        have key2 : ∀ (P : List Nat) (W1 : mW) (t : Nat), MS W1 o ad → lkI (aI W1 (ad 113)) 5100 (gI W1 114 o) (P ++ Fr) → (P ++ Fr).Nodup → t + P.length = N → mV p l e (mRm 1 0 0) s m args below meth c D dA A 8 W1 0 0 (MQ below (mQ D dA A (fun v w' => v = some (vJ (ob i)) ∧ w' = sI (sI (adL ad o i x W1 P) 102 o (gI W1 102 o + cOf k (nI N))) 103 o (gI W1 103 o + 1))) args s 0 0 A) 65 [(6, vI (nI t)), (5, vI (nI i)), (0, vR (some o)), (1, vI k), (2, vI (nI N)), (3, vJ x)] [] := by
          intro P
          induction P with
          | nil =>
            intro W1 t hM hch hnd hlen
            have htN : t = N := by simpa using hlen
            refine mv_iload X 0 d_M_add_65 rfl ?_
            refine mv_iload_n X 4 d_M_add_67 rfl ?_
            refine mv_icmp_ge (tgt := 125) X d_M_add_68 (by decide) (fun h68 => ?_) (fun h68 => ?_)
            · refine mv_aload_n X 2 d_M_add_125 rfl ?_
              refine mv_aload_n X 2 d_M_add_126 rfl ?_
              refine mv_geti (w := W1) X d_M_add_127 f_M_70 (mIs.one hM.1) rfl ?_
              refine mv_iload_n X 3 d_M_add_130 rfl ?_
              refine mv_iload_n X 4 d_M_add_131 rfl ?_
              refine mv_calls X [vI k, vI (nI N)] [vI (gI W1 102 o), vR (some o)] (k_M_cellsOf l W1 k (nI N)) d_M_add_132 cs_M_79 ⟨Nat.le_of_ble_eq_true rfl, Nat.le_of_ble_eq_true rfl⟩ ⟨Nat.le_of_ble_eq_true rfl, Nat.le_of_ble_eq_true rfl⟩ rfl (Nat.le_of_ble_eq_true rfl) (fun v132 w132 hp132 => ?_)
              obtain ⟨rfl, rfl⟩ := hp132
              refine mv_iadd X d_M_add_135 ?_
              refine mv_puti X d_M_add_136 f_M_70 (mIs.one hM.1) rfl rfl ?_
              refine mv_aload_n X 2 d_M_add_139 rfl ?_
              refine mv_aload_n X 2 d_M_add_140 rfl ?_
              refine mv_geti (w := (sI W1 102 o ((gI W1 102 o) + (cOf k (nI N))))) X d_M_add_141 f_M_83 (mIs.one hM.1) rfl ?_
              refine mv_iconst (v := 1) X d_M_add_144 (by decide) ?_
              refine mv_iadd X d_M_add_145 ?_
              refine mv_puti X d_M_add_146 f_M_83 (mIs.one hM.1) rfl rfl ?_
              refine mv_ldc2 (v := 25769803776) X d_M_add_149 (mA (by decide +kernel) (by decide +kernel)) ?_
              refine mv_iload X 1 d_M_add_152 rfl ?_
              refine mv_i2l (v := Int32.toInt64 (nI i)) X d_M_add_154 rfl ?_
              refine mv_lor X d_M_add_155 ?_
              exact mv_ret_j X d_M_add_156 rfl (Nat.le_of_ble_eq_true rfl) (Nat.le_of_ble_eq_true rfl) (⟨rfl, rfl⟩)
            · exact absurd (nI_le (show N ≤ t by omega) (by omega)) h68
          | cons c1 P ih =>
            intro W1 t hM hch hnd hlen
            have hlt : t < N := by simp at hlen; omega
            obtain ⟨hc1, hc2, hc3⟩ := id hch
            have hn1 : c1 ∉ P ++ Fr := (List.nodup_cons.mp hnd).1
            refine mv_iload X 0 d_M_add_65 rfl ?_
            refine mv_iload_n X 4 d_M_add_67 rfl ?_
            refine mv_icmp_ge (tgt := 125) X d_M_add_68 (by decide) (fun h68 => ?_) (fun h68 => ?_)
            · exact absurd h68 (nI_ge hlt (by omega))
            · refine mv_aload_n X 2 d_M_add_71 rfl ?_
              refine mv_geti (w := W1) X d_M_add_72 f_M_76 (mIs.one hM.1) hc1 ?_
              refine mv_istore (lv' := [(7, vI (nI c1)), (6, vI (nI t)), (5, vI (nI i)), (0, vR (some o)), (1, vI k), (2, vI (nI N)), (3, vJ x)]) X d_M_add_75 (by decide) rfl ?_
              refine mv_aload_n X 3 d_M_add_77 rfl ?_
              refine mv_aload_n X 3 d_M_add_78 rfl ?_
              refine mv_getr (w := W1) X d_M_add_79 f_M_39 (mIs.one hM.1) hM.r113 ?_
              refine mv_iload X 0 d_M_add_82 rfl ?_
              refine mv_iald (x := aI W1 (ad 113) c1) X d_M_add_84 rfl rfl hM.k113 rfl hc2 (by decide) rfl ?_
              refine mv_puti X d_M_add_85 f_M_76 (mIs.one hM.1) rfl rfl ?_
              refine mv_aload_n X 3 d_M_add_88 rfl ?_
              refine mv_getr (w := (sI W1 114 o (aI W1 (ad 113) c1))) X d_M_add_89 f_M_36 (mIs.one hM.1) hM.r112 ?_
              refine mv_iload X 0 d_M_add_92 rfl ?_
              refine mv_lload_n X 6 d_M_add_94 rfl ?_
              refine mv_last X d_M_add_95 rfl rfl hM.k112 rfl hc2 (by decide) ?_
              refine mv_aload_n X 3 d_M_add_96 rfl ?_
              refine mv_getr (w := (xJ (sI W1 114 o (aI W1 (ad 113) c1)) (ad 112) c1 x)) X d_M_add_97 f_M_39 (mIs.one hM.1) hM.r113 ?_
              refine mv_iload X 0 d_M_add_100 rfl ?_
              refine mv_aload_n X 3 d_M_add_102 rfl ?_
              refine mv_getr (w := (xJ (sI W1 114 o (aI W1 (ad 113) c1)) (ad 112) c1 x)) X d_M_add_103 f_M_20 (mIs.one hM.1) hM.r106 ?_
              refine mv_iload X 2 d_M_add_106 rfl ?_
              refine mv_iald (x := aI W1 (ad 106) i) X d_M_add_108 rfl rfl hM.k106 rfl hi0 (by decide) rfl ?_
              refine mv_iast X d_M_add_109 rfl rfl hM.k113 rfl hc2 (by decide) ?_
              refine mv_aload_n X 3 d_M_add_110 rfl ?_
              refine mv_getr (w := (xI (xJ (sI W1 114 o (aI W1 (ad 113) c1)) (ad 112) c1 x) (ad 113) c1 (aI W1 (ad 106) i))) X d_M_add_111 f_M_20 (mIs.one hM.1) hM.r106 ?_
              refine mv_iload X 2 d_M_add_114 rfl ?_
              refine mv_iload X 0 d_M_add_116 rfl ?_
              refine mv_iast X d_M_add_118 rfl rfl hM.k106 rfl hi0 (by decide) ?_
              refine mv_iinc (v := nI (t + 1)) (lv' := [(6, vI (nI (t + 1))), (7, vI (nI c1)), (5, vI (nI i)), (0, vR (some o)), (1, vI k), (2, vI (nI N)), (3, vJ x)]) X 1 d_M_add_119 rfl (nI_1 t) (by decide) rfl ?_
              refine mv_goto (tgt := 65) X d_M_add_122 (by decide) ?_
              have h0 := ih (adS W1 ad o i x c1) (t + 1) (hM.to rfl rfl) (adS_lk (hM.ne (by decide) (by decide) (by decide)) hch hn1) (List.nodup_cons.mp hnd).2 (by simp at hlen; omega)
              have e1 : gI (adS W1 ad o i x c1) 102 o = gI W1 102 o := rfl
              have e2 : gI (adS W1 ad o i x c1) 103 o = gI W1 103 o := rfl
              rw [e1, e2] at h0
              exact mv_sub [0, 2, 3, 4, 5, 6] rfl h0
        have hch0 : lkI (aI (xI (xI (xI (xI (xI w (ad 104) i k) (ad 105) i (nI N)) (ad 107) i 0) (ad 108) i 1) (ad 106) i (-1)) (ad 113)) 5100 (gI (xI (xI (xI (xI (xI w (ad 104) i k) (ad 105) i (nI N)) (ad 107) i 0) (ad 108) i 1) (ad 106) i (-1)) 114 o) (P ++ Fr) := by
          refine lkI_congr hch (fun d _ => ?_)
          rw [aI_xI_ne _ _ _ _ (hM.ne (by decide) (by decide) (by decide)), aI_xI_ne _ _ _ _ (hM.ne (by decide) (by decide) (by decide)), aI_xI_ne _ _ _ _ (hM.ne (by decide) (by decide) (by decide)), aI_xI_ne _ _ _ _ (hM.ne (by decide) (by decide) (by decide)), aI_xI_ne _ _ _ _ (hM.ne (by decide) (by decide) (by decide))]
        exact mv_sub [0, 1, 2, 3, 4, 5] rfl (key2 P (xI (xI (xI (xI (xI w (ad 104) i k) (ad 105) i (nI N)) (ad 107) i 0) (ad 108) i 1) (ad 106) i (-1)) 0 (hM.to rfl rfl) hch0 hnd (by omega))
      · exact absurd rfl h10
    | succ n ih =>
      intro i hn
      refine mv_aload_n X 1 d_M_add_3 rfl ?_
      refine mv_getr (w := w) X d_M_add_4 f_M_26 (mIs.one hM.1) hM.r108 ?_
      refine mv_iload X 0 d_M_add_7 rfl ?_
      refine mv_zald (x := 1) X d_M_add_9 rfl rfl hM.k108 rfl (by omega) (by decide) (hbef i (by omega)) ?_
      refine mv_if_eq (tgt := 22) X d_M_add_10 (by decide) (fun h10 => ?_) (fun h10 => ?_)
      · exact absurd h10 (by decide)
      · refine mv_iload X 0 d_M_add_13 rfl ?_
        refine mv_iconst (v := 1) X d_M_add_15 (by decide) ?_
        refine mv_iadd X d_M_add_16 ?_
        refine mv_istore (lv' := [(5, vI ((nI i) + 1)), (0, vR (some o)), (1, vI k), (2, vI (nI N)), (3, vJ x)]) X d_M_add_17 (by decide) rfl ?_
        refine mv_goto (tgt := 3) X d_M_add_19 (by decide) ?_
        have h0 := ih (i + 1) (by omega)
        rw [← nI_1] at h0
        exact mv_sub [0, 1, 2, 3, 4] rfl h0
  exact key i0 0 (by omega)
