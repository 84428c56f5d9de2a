
section MV7
variable {p : Program} {l : Launch} {e : Env} {R : Room} {s : State} {m : MethodId} {args : Array Value} {below : List Frame} {meth : Method} {c : Code} {nL : Nat} {D : va_G} {dA : Nat → ClassId} {A : Nat → Prop} {w : mW} {cells slots : Nat} {Q : State → Prop} {pc : Nat} {lv lv' : tL} {st : List tV}
theorem mv_eqlv (h : lv = lv') (kk : mV p l e R s m args below meth c D dA A nL w cells slots Q pc lv' st) : mV p l e R s m args below meth c D dA A nL w cells slots Q pc lv st := h ▸ kk
end MV7
theorem lkI_congr {f f' : Nat → Int32} {N : Nat} : ∀ {L : List Nat} {x : Int32}, lkI f N x L → (∀ d ∈ L, f' d = f d) → lkI f' N x L
  | [], _, h, _ => h
  | c :: L, _, h, hc => ⟨h.1, h.2.1, by rw [hc c List.mem_cons_self]; exact lkI_congr h.2.2 (fun d hd => hc d (List.mem_cons_of_mem _ hd))⟩
/-- one cell comes to the object i -/
def adS (w : mW) (ad : Nat → Nat) (o i : Nat) (x : Int64) (c : Nat) : mW := xI (xI (xJ (sI w 114 o (aI w (ad 113) c)) (ad 112) c x) (ad 113) c (aI w (ad 106) i)) (ad 106) i (nI c)
def adL (ad : Nat → Nat) (o i : Nat) (x : Int64) : mW → List Nat → mW
  | w, [] => w
  | w, c :: P => adL ad o i x (adS w ad o i x c) P
theorem adS_113 {w : mW} {ad : Nat → Nat} {o i : Nat} {x : Int64} {c d : Nat} (hne : ad 113 ≠ ad 106) (h : d ≠ c) : aI (adS w ad o i x c) (ad 113) d = aI w (ad 113) d := by
  unfold adS
  rw [aI_xI_ne _ _ _ _ hne, aI_xI_na _ _ _ _ h]
  rfl
theorem adS_free {w : mW} {ad : Nat → Nat} {o i : Nat} {x : Int64} {c : Nat} : gI (adS w ad o i x c) 114 o = aI w (ad 113) c := gI_sI_eq _ _ _ _
theorem adS_lk {w : mW} {ad : Nat → Nat} {o i : Nat} {x : Int64} {c : Nat} {L : List Nat} (hne : ad 113 ≠ ad 106) (h : lkI (aI w (ad 113)) 5100 (gI w 114 o) (c :: L)) (hn : c ∉ L) : lkI (aI (adS w ad o i x c) (ad 113)) 5100 (gI (adS w ad o i x c) 114 o) L := by
  rw [adS_free]
  exact lkI_congr h.2.2 (fun d hd => adS_113 hne (fun q => hn (q ▸ hd)))
/-- one cell of the object i goes back -/
def drS (w : mW) (ad : Nat → Nat) (o i c : Nat) : mW := sI (xI (xI w (ad 106) i (aI w (ad 113) c)) (ad 113) c (gI w 114 o)) 114 o (nI c)
def drL (ad : Nat → Nat) (o i : Nat) : mW → List Nat → mW
  | w, [] => w
  | w, c :: P => drL ad o i (drS w ad o i c) P
theorem drS_106 {w : mW} {ad : Nat → Nat} {o i c : Nat} (hne : ad 106 ≠ ad 113) : aI (drS w ad o i c) (ad 106) i = aI w (ad 113) c := by
  unfold drS
  rw [aI_sI, aI_xI_ne _ _ _ _ hne, aI_xI_eq]
theorem drS_113 {w : mW} {ad : Nat → Nat} {o i c d : Nat} (hne : ad 106 ≠ ad 113) (h : d ≠ c) : aI (drS w ad o i c) (ad 113) d = aI w (ad 113) d := by
  unfold drS
  rw [aI_sI, aI_xI_na _ _ _ _ h, aI_xI_ne _ _ _ _ (Ne.symm hne)]
theorem drS_lk {w : mW} {ad : Nat → Nat} {o i c : Nat} {L : List Nat} (hne : ad 106 ≠ ad 113) (h : lkI (aI w (ad 113)) 5100 (aI w (ad 106) i) (c :: L)) (hn : c ∉ L) : lkI (aI (drS w ad o i c) (ad 113)) 5100 (aI (drS w ad o i c) (ad 106) i) L := by
  rw [drS_106 hne]
  exact lkI_congr h.2.2 (fun d hd => drS_113 hne (fun q => hn (q ▸ hd)))
theorem drL_I (ad : Nat → Nat) (o i : Nat) {k : Nat} (hk : k ≠ 114) : ∀ (P : List Nat) (w : mW), gI (drL ad o i w P) k = gI w k
  | [], _ => rfl
  | c :: P, w => (drL_I ad o i hk P (drS w ad o i c)).trans (by unfold drS; rw [gI_sI_nk _ _ _ _ hk]; rfl)
theorem drL_K (ad : Nat → Nat) (o i : Nat) : ∀ (P : List Nat) (w : mW), gK (drL ad o i w P) = gK w ∧ gR (drL ad o i w P) = gR w
  | [], _ => ⟨rfl, rfl⟩
  | c :: P, w => drL_K ad o i P (drS w ad o i c)
theorem drL_a (ad : Nat → Nat) (o i : Nat) {a : Nat} (h1 : a ≠ ad 106) (h2 : a ≠ ad 113) : ∀ (P : List Nat) (w : mW), aI (drL ad o i w P) a = aI w a
  | [], _ => rfl
  | c :: P, w => (drL_a ad o i h1 h2 P (drS w ad o i c)).trans (by unfold drS; rw [aI_sI, aI_xI_nk _ _ _ _ h2, aI_xI_nk _ _ _ _ h1])
theorem adL_I (ad : Nat → Nat) (o i : Nat) (x : Int64) {k : Nat} (hk : k ≠ 114) : ∀ (P : List Nat) (w : mW), gI (adL ad o i x w P) k = gI w k
  | [], _ => rfl
  | c :: P, w => (adL_I ad o i x hk P (adS w ad o i x c)).trans (by unfold adS; rw [gI_xI, gI_xI, gI_xJ, gI_sI_nk _ _ _ _ hk])
theorem adL_K (ad : Nat → Nat) (o i : Nat) (x : Int64) : ∀ (P : List Nat) (w : mW), gK (adL ad o i x w P) = gK w ∧ gR (adL ad o i x w P) = gR w
  | [], _ => ⟨rfl, rfl⟩
  | c :: P, w => adL_K ad o i x P (adS w ad o i x c)
set_option maxRecDepth 100000 in
set_option maxHeartbeats 4000000 in
theorem k_M_look (l : Launch) (w : mW) (o : Nat) (ad : Nat → Nat) (hM : MS w o ad) (q x : Int32) (Ch : Nat → List Nat) (L : List Nat) (t : Nat) (ht0 : isRg q = true → isOb (aJ w (ad 101) (rN q)) = true → aJ w (ad 101) (rN q) = ob t ∧ t < 1700) (hT : isRg q = true → isOb (aJ w (ad 101) (rN q)) = true → aI w (ad 104) t = 4 → hC w ad Ch t ∧ 0 < (Ch t).length ∧ lkE w ad Ch (fv w ad Ch t 0) L) : mMet l y_M_look c_M_look 6 (some .int) 3 0 0 [vR (some o), vI q, vI x] w (fun v w' => if isRg q = true ∧ ¬ x < 0 ∧ x ≤ 2 then (if isOb (aJ w (ad 101) (rN q)) = true then (if x = 0 then v = some (vI (aI w (ad 104) t)) ∧ w = w' else if x = 2 then v = some (vI (if aI w (ad 104) t = 4 then nI L.length else aI w (ad 105) t)) ∧ w = w' else if aI w (ad 107) t = 0 then v = some (vI (gI w 122 o + 1)) ∧ w' = xI (sI w 122 o (gI w 122 o + 1)) (ad 107) t (gI w 122 o + 1) else v = some (vI (aI w (ad 107) t)) ∧ w = w') else v = some (vI (if x = 0 then (if aJ w (ad 101) (rN q) = 12884901888 then 6 else 5) else if x = 1 then (if aJ w (ad 101) (rN q) = 12884901888 then 0 else (aJ w (ad 101) (rN q)).toInt32) else 0)) ∧ w = w') else v = some (vI (-1)) ∧ w = w') := by
  refine mMet.of (by decide) (Nat.le_of_ble_eq_true rfl) ?_
  intro p e s m args below meth c D dA A X
  show mV p l e (mRm 3 0 0) s m args below meth c D dA A 6 w 0 0 _ 0 [(0, vR (some o)), (1, vI q), (2, vI x)] []
  refine mv_iload_n X 1 d_M_look_0 rfl ?_
  refine mv_calls X [vI q] [] (k_M_isRegister l w q) d_M_look_1 cs_M_137 ⟨Nat.le_of_ble_eq_true rfl, Nat.le_of_ble_eq_true rfl⟩ ⟨Nat.le_of_ble_eq_true rfl, Nat.le_of_ble_eq_true rfl⟩ rfl (Nat.le_of_ble_eq_true rfl) (fun v1 w1 hp1 => ?_)
  obtain ⟨rfl, rfl⟩ := hp1
  refine mv_if_eq (tgt := 16) X d_M_look_4 (by decide) (fun h4 => ?_) (fun h4 => ?_)
  · refine mv_iconst (v := (-1)) X d_M_look_16 (by decide) ?_
    exact mv_ret_i (Post := _) X d_M_look_17 rfl rfl (Nat.le_of_ble_eq_true rfl) (Nat.le_of_ble_eq_true rfl) (by rw [if_neg (fun z => bI_nt h4 z.1)]; exact ⟨rfl, rfl⟩)
  · refine mv_iload_n X 2 d_M_look_7 rfl ?_
    refine mv_if_lt (tgt := 16) X d_M_look_8 (by decide) (fun h8 => ?_) (fun h8 => ?_)
    · refine mv_iconst (v := (-1)) X d_M_look_16 (by decide) ?_
      exact mv_ret_i (Post := _) X d_M_look_17 rfl rfl (Nat.le_of_ble_eq_true rfl) (Nat.le_of_ble_eq_true rfl) (by rw [if_neg (fun z => z.2.1 h8)]; exact ⟨rfl, rfl⟩)
    · refine mv_iload_n X 2 d_M_look_11 rfl ?_
      refine mv_iconst (v := 2) X d_M_look_12 (by decide) ?_
      refine mv_icmp_le (tgt := 18) X d_M_look_13 (by decide) (fun h13 => ?_) (fun h13 => ?_)
      · refine mv_aload_n X 0 d_M_look_18 rfl ?_
        refine mv_getr (w := w) X d_M_look_19 f_M_7 (mIs.one hM.1) hM.r101 ?_
        refine mv_iload_n X 1 d_M_look_22 rfl ?_
        refine mv_lald (x := aJ w (ad 101) (rN q)) X d_M_look_23 rfl rfl hM.k101 ((isRg_nI (bI_ne.mp h4)).1) ((isRg_nI (bI_ne.mp h4)).2) (by decide) rfl ?_
        refine mv_lstore_n (lv' := [(3, vJ (aJ w (ad 101) (rN q))), (0, vR (some o)), (1, vI q), (2, vI x)]) X d_M_look_24 (by decide) rfl ?_
        refine mv_lload_n X 0 d_M_look_25 rfl ?_
        refine mv_calls X [vJ (aJ w (ad 101) (rN q))] [] (k_M_isObject l w (aJ w (ad 101) (rN q))) d_M_look_26 cs_M_62 ⟨Nat.le_of_ble_eq_true rfl, Nat.le_of_ble_eq_true rfl⟩ ⟨Nat.le_of_ble_eq_true rfl, Nat.le_of_ble_eq_true rfl⟩ rfl (Nat.le_of_ble_eq_true rfl) (fun v26 w26 hp26 => ?_)
        obtain ⟨rfl, rfl⟩ := hp26
        refine mv_if_ne (tgt := 73) X d_M_look_29 (by decide) (fun h29 => ?_) (fun h29 => ?_)
        · have hb := bI_ne.mp h29
          obtain ⟨hvq, ht17⟩ := ht0 (bI_ne.mp h4) hb
          refine mv_eqlv (lv' := [(3, vJ (ob t)), (0, vR (some o)), (1, vI q), (2, vI x)]) (by rw [hvq]) ?_
          refine mv_lload_n X 0 d_M_look_73 rfl ?_
          refine mv_l2i (v := Int64.toInt32 (ob t)) X d_M_look_74 rfl ?_
          refine mv_istore (lv' := [(5, vI (Int64.toInt32 (ob t))), (3, vJ (ob t)), (0, vR (some o)), (1, vI q), (2, vI x)]) X d_M_look_75 (by decide) rfl ?_
          refine mv_iload_n X 4 d_M_look_77 rfl ?_
          refine mv_if_ne (tgt := 89) X d_M_look_78 (by decide) (fun h78 => ?_) (fun h78 => ?_)
          · refine mv_iload_n X 4 d_M_look_89 rfl ?_
            refine mv_iconst (v := 2) X d_M_look_90 (by decide) ?_
            refine mv_icmp_ne (tgt := 121) X d_M_look_91 (by decide) (fun h91 => ?_) (fun h91 => ?_)
            · refine mv_aload_n X 2 d_M_look_121 rfl ?_
              refine mv_getr (w := w) X d_M_look_122 f_M_23 (mIs.one hM.1) hM.r107 ?_
              refine mv_iload X 0 d_M_look_125 rfl ?_
              refine mv_iald (x := aI w (ad 107) t) X d_M_look_127 rfl rfl hM.k107 ((ob_all t ht17).1) ht17 (by decide) rfl ?_
              refine mv_if_ne (tgt := 152) X d_M_look_128 (by decide) (fun h128 => ?_) (fun h128 => ?_)
              · refine mv_aload_n X 2 d_M_look_152 rfl ?_
                refine mv_getr (w := w) X d_M_look_153 f_M_23 (mIs.one hM.1) hM.r107 ?_
                refine mv_iload X 0 d_M_look_156 rfl ?_
                refine mv_iald (x := aI w (ad 107) t) X d_M_look_158 rfl rfl hM.k107 ((ob_all t ht17).1) ht17 (by decide) rfl ?_
                exact mv_ret_i (Post := _) X d_M_look_159 rfl rfl (Nat.le_of_ble_eq_true rfl) (Nat.le_of_ble_eq_true rfl) (by rw [if_pos ⟨bI_ne.mp h4, h8, h13⟩, if_pos hb, if_neg h78, if_neg h91, if_neg h128]; exact ⟨rfl, rfl⟩)
              · refine mv_aload_n X 2 d_M_look_131 rfl ?_
                refine mv_aload_n X 2 d_M_look_132 rfl ?_
                refine mv_geti (w := w) X d_M_look_133 f_M_165 (mIs.one hM.1) rfl ?_
                refine mv_iconst (v := 1) X d_M_look_136 (by decide) ?_
                refine mv_iadd X d_M_look_137 ?_
                refine mv_puti X d_M_look_138 f_M_165 (mIs.one hM.1) rfl rfl ?_
                refine mv_aload_n X 2 d_M_look_141 rfl ?_
                refine mv_getr (w := (sI w 122 o ((gI w 122 o) + 1))) X d_M_look_142 f_M_23 (mIs.one hM.1) hM.r107 ?_
                refine mv_iload X 0 d_M_look_145 rfl ?_
                refine mv_aload_n X 2 d_M_look_147 rfl ?_
                refine mv_geti (w := (sI w 122 o ((gI w 122 o) + 1))) X d_M_look_148 f_M_165 (mIs.one hM.1) (gI_sI_eq _ _ _ _) ?_
                refine mv_iast X d_M_look_151 rfl rfl hM.k107 ((ob_all t ht17).1) ht17 (by decide) ?_
                refine mv_aload_n X 2 d_M_look_152 rfl ?_
                refine mv_getr (w := (xI (sI w 122 o ((gI w 122 o) + 1)) (ad 107) t ((gI w 122 o) + 1))) X d_M_look_153 f_M_23 (mIs.one hM.1) hM.r107 ?_
                refine mv_iload X 0 d_M_look_156 rfl ?_
                refine mv_iald (x := gI w 122 o + 1) X d_M_look_158 rfl rfl hM.k107 ((ob_all t ht17).1) ht17 (by decide) (aI_xI_eq _ _ _ _) ?_
                exact mv_ret_i (Post := _) X d_M_look_159 rfl rfl (Nat.le_of_ble_eq_true rfl) (Nat.le_of_ble_eq_true rfl) (by rw [if_pos ⟨bI_ne.mp h4, h8, h13⟩, if_pos hb, if_neg h78, if_neg h91, if_pos h128]; exact ⟨rfl, rfl⟩)
            · refine mv_aload_n X 2 d_M_look_94 rfl ?_
              refine mv_getr (w := w) X d_M_look_95 f_M_13 (mIs.one hM.1) hM.r104 ?_
              refine mv_iload X 0 d_M_look_98 rfl ?_
              refine mv_iald (x := aI w (ad 104) t) X d_M_look_100 rfl rfl hM.k104 ((ob_all t ht17).1) ht17 (by decide) rfl ?_
              refine mv_iconst (v := 4) X d_M_look_101 (by decide) ?_
              refine mv_icmp_ne (tgt := 113) X d_M_look_102 (by decide) (fun h102 => ?_) (fun h102 => ?_)
              · refine mv_aload_n X 2 d_M_look_113 rfl ?_
                refine mv_getr (w := w) X d_M_look_114 f_M_17 (mIs.one hM.1) hM.r105 ?_
                refine mv_iload X 0 d_M_look_117 rfl ?_
                refine mv_iald (x := aI w (ad 105) t) X d_M_look_119 rfl rfl hM.k105 ((ob_all t ht17).1) ht17 (by decide) rfl ?_
                exact mv_ret_i (Post := _) X d_M_look_120 rfl rfl (Nat.le_of_ble_eq_true rfl) (Nat.le_of_ble_eq_true rfl) (by rw [if_pos ⟨bI_ne.mp h4, h8, h13⟩, if_pos hb, if_neg h78, if_pos h91]; refine ⟨?_, rfl⟩; rw [if_neg h102])
              · obtain ⟨htC, ht1, hL⟩ := hT (bI_ne.mp h4) hb h102
                refine mv_aload_n X 2 d_M_look_105 rfl ?_
                refine mv_lload_n X 1 d_M_look_106 rfl ?_
                refine mv_callv X [vJ (ob t)] [] (k_M_entryCount l w o ad hM Ch t htC ht1 L hL) d_M_look_107 cv_M_162 hM.1 ⟨Nat.le_of_ble_eq_true rfl, Nat.le_of_ble_eq_true rfl⟩ ⟨Nat.le_of_ble_eq_true rfl, Nat.le_of_ble_eq_true rfl⟩ rfl (Nat.le_of_ble_eq_true rfl) (fun v107 w107 hp107 => ?_)
                obtain ⟨rfl, rfl⟩ := hp107
                refine mv_goto (tgt := 120) X d_M_look_110 (by decide) ?_
                exact mv_ret_i (Post := _) X d_M_look_120 rfl rfl (Nat.le_of_ble_eq_true rfl) (Nat.le_of_ble_eq_true rfl) (by rw [if_pos ⟨bI_ne.mp h4, h8, h13⟩, if_pos hb, if_neg h78, if_pos h91]; refine ⟨?_, rfl⟩; rw [if_pos h102])
          · refine mv_aload_n X 2 d_M_look_81 rfl ?_
            refine mv_getr (w := w) X d_M_look_82 f_M_13 (mIs.one hM.1) hM.r104 ?_
            refine mv_iload X 0 d_M_look_85 rfl ?_
            refine mv_iald (x := aI w (ad 104) t) X d_M_look_87 rfl rfl hM.k104 ((ob_all t ht17).1) ht17 (by decide) rfl ?_
            exact mv_ret_i (Post := _) X d_M_look_88 rfl rfl (Nat.le_of_ble_eq_true rfl) (Nat.le_of_ble_eq_true rfl) (by rw [if_pos ⟨bI_ne.mp h4, h8, h13⟩, if_pos hb, if_pos h78]; exact ⟨rfl, rfl⟩)
        · refine mv_iload_n X 3 d_M_look_32 rfl ?_
          refine mv_if_ne (tgt := 53) X d_M_look_33 (by decide) (fun h33 => ?_) (fun h33 => ?_)
          · refine mv_iload_n X 3 d_M_look_53 rfl ?_
            refine mv_iconst (v := 1) X d_M_look_54 (by decide) ?_
            refine mv_icmp_ne (tgt := 71) X d_M_look_55 (by decide) (fun h55 => ?_) (fun h55 => ?_)
            · refine mv_iconst (v := 0) X d_M_look_71 (by decide) ?_
              exact mv_ret_i (Post := _) X d_M_look_72 rfl rfl (Nat.le_of_ble_eq_true rfl) (Nat.le_of_ble_eq_true rfl) (by rw [if_pos ⟨bI_ne.mp h4, h8, h13⟩, if_neg (bI_nt h29)]; refine ⟨?_, rfl⟩; rw [if_neg h33, if_neg h55])
            · refine mv_lload_n X 0 d_M_look_58 rfl ?_
              refine mv_ldc2 (v := 12884901888) X d_M_look_59 (mA (by decide +kernel) (by decide +kernel)) ?_
              refine mv_lcmp X d_M_look_62 ?_
              refine mv_if_eq (tgt := 71) X d_M_look_63 (by decide) (fun h63 => ?_) (fun h63 => ?_)
              · refine mv_iconst (v := 0) X d_M_look_71 (by decide) ?_
                exact mv_ret_i (Post := _) X d_M_look_72 rfl rfl (Nat.le_of_ble_eq_true rfl) (Nat.le_of_ble_eq_true rfl) (by rw [if_pos ⟨bI_ne.mp h4, h8, h13⟩, if_neg (bI_nt h29)]; refine ⟨?_, rfl⟩; rw [if_neg h33, if_pos h55, if_pos ((lg_cmp_eq _ _).mp h63)])
              · refine mv_lload_n X 0 d_M_look_66 rfl ?_
                refine mv_l2i (v := Int64.toInt32 (aJ w (ad 101) (rN q))) X d_M_look_67 rfl ?_
                refine mv_goto (tgt := 72) X d_M_look_68 (by decide) ?_
                exact mv_ret_i (Post := _) X d_M_look_72 rfl rfl (Nat.le_of_ble_eq_true rfl) (Nat.le_of_ble_eq_true rfl) (by rw [if_pos ⟨bI_ne.mp h4, h8, h13⟩, if_neg (bI_nt h29)]; refine ⟨?_, rfl⟩; rw [if_neg h33, if_pos h55, if_neg (fun z => h63 (lgy z))])
          · refine mv_lload_n X 0 d_M_look_36 rfl ?_
            refine mv_ldc2 (v := 12884901888) X d_M_look_37 (mA (by decide +kernel) (by decide +kernel)) ?_
            refine mv_lcmp X d_M_look_40 ?_
            refine mv_if_ne (tgt := 49) X d_M_look_41 (by decide) (fun h41 => ?_) (fun h41 => ?_)
            · refine mv_iconst (v := 5) X d_M_look_49 (by decide) ?_
              refine mv_goto (tgt := 72) X d_M_look_50 (by decide) ?_
              exact mv_ret_i (Post := _) X d_M_look_72 rfl rfl (Nat.le_of_ble_eq_true rfl) (Nat.le_of_ble_eq_true rfl) (by rw [if_pos ⟨bI_ne.mp h4, h8, h13⟩, if_neg (bI_nt h29)]; refine ⟨?_, rfl⟩; rw [if_pos h33, if_neg (fun z => h41 (lgy z))])
            · refine mv_bipush (v := 6) X d_M_look_44 (by decide) ?_
              refine mv_goto (tgt := 72) X d_M_look_46 (by decide) ?_
              exact mv_ret_i (Post := _) X d_M_look_72 rfl rfl (Nat.le_of_ble_eq_true rfl) (Nat.le_of_ble_eq_true rfl) (by rw [if_pos ⟨bI_ne.mp h4, h8, h13⟩, if_neg (bI_nt h29)]; refine ⟨?_, rfl⟩; rw [if_pos h33, if_pos ((lg_cmp_eq _ _).mp h41)])
      · refine mv_iconst (v := (-1)) X d_M_look_16 (by decide) ?_
        exact mv_ret_i (Post := _) X d_M_look_17 rfl rfl (Nat.le_of_ble_eq_true rfl) (Nat.le_of_ble_eq_true rfl) (by rw [if_neg (fun z => h13 z.2.2)]; exact ⟨rfl, rfl⟩)
set_option maxRecDepth 100000 in
set_option maxHeartbeats 4000000 in
theorem k_M_drop (l : Launch) (w : mW) (o : Nat) (ad : Nat → Nat) (hM : MS w o ad) (i : Nat) (hi : i < 1700) (P : List Nat) (hch : lkI (aI w (ad 113)) 5100 (aI w (ad 106) i) P) (hnd : P.Nodup) : mMet l y_M_drop c_M_drop 3 none 1 0 0 [vR (some o), vI (nI i)] w (fun v w' => v = none ∧ w' = sI (sI (xI (drL ad o i w P) (ad 108) i 0) 102 o (gI w 102 o - cOf (aI w (ad 104) i) (aI w (ad 105) i))) 103 o (gI w 103 o - 1)) := by
  refine mMet.of (by decide) (Nat.le_of_ble_eq_true rfl) ?_
  intro p e s m args below meth c D dA A X
  show mV p l e (mRm 1 0 0) s m args below meth c D dA A 3 w 0 0 _ 0 [(0, vR (some o)), (1, vI (nI i))] []
  have key : ∀ (P : List Nat) (W0 : mW), MS W0 o ad → lkI (aI W0 (ad 113)) 5100 (aI W0 (ad 106) i) P → P.Nodup → mV p l e (mRm 1 0 0) s m args below meth c D dA A 3 W0 0 0 (MQ below (mQ D dA A (fun v w' => v = none ∧ w' = sI (sI (xI (drL ad o i W0 P) (ad 108) i 0) 102 o (gI W0 102 o - cOf (aI W0 (ad 104) i) (aI W0 (ad 105) i))) 103 o (gI W0 103 o - 1))) args s 0 0 A) 0 [(0, vR (some o)), (1, vI (nI i))] [] := by
    intro P
    induction P with
    | nil =>
      intro W0 hM hch hnd
      have hch : aI W0 (ad 106) i = -1 := hch
      refine mv_aload_n X 0 d_M_drop_0 rfl ?_
      refine mv_getr (w := W0) X d_M_drop_1 f_M_20 (mIs.one hM.1) hM.r106 ?_
      refine mv_iload_n X 1 d_M_drop_4 rfl ?_
      refine mv_iald (x := -1) X d_M_drop_5 rfl rfl hM.k106 rfl hi (by decide) hch ?_
      refine mv_if_lt (tgt := 46) X d_M_drop_6 (by decide) (fun h6 => ?_) (fun h6 => ?_)
      · refine mv_aload_n X 0 d_M_drop_46 rfl ?_
        refine mv_getr (w := W0) X d_M_drop_47 f_M_26 (mIs.one hM.1) hM.r108 ?_
        refine mv_iload_n X 1 d_M_drop_50 rfl ?_
        refine mv_iconst (v := 0) X d_M_drop_51 (by decide) ?_
        refine mv_zast X d_M_drop_52 rfl rfl hM.k108 rfl hi (by decide) rfl ?_
        refine mv_aload_n X 0 d_M_drop_53 rfl ?_
        refine mv_aload_n X 0 d_M_drop_54 rfl ?_
        refine mv_geti (w := (xI W0 (ad 108) i 0)) X d_M_drop_55 f_M_70 (mIs.one hM.1) rfl ?_
        refine mv_aload_n X 0 d_M_drop_58 rfl ?_
        refine mv_getr (w := (xI W0 (ad 108) i 0)) X d_M_drop_59 f_M_13 (mIs.one hM.1) hM.r104 ?_
        refine mv_iload_n X 1 d_M_drop_62 rfl ?_
        refine mv_iald (x := aI W0 (ad 104) i) X d_M_drop_63 rfl rfl hM.k104 rfl hi (by decide) (aI_xI_ne _ _ _ _ (hM.ne (by decide) (by decide) (by decide))) ?_
        refine mv_aload_n X 0 d_M_drop_64 rfl ?_
        refine mv_getr (w := (xI W0 (ad 108) i 0)) X d_M_drop_65 f_M_17 (mIs.one hM.1) hM.r105 ?_
        refine mv_iload_n X 1 d_M_drop_68 rfl ?_
        refine mv_iald (x := aI W0 (ad 105) i) X d_M_drop_69 rfl rfl hM.k105 rfl hi (by decide) (aI_xI_ne _ _ _ _ (hM.ne (by decide) (by decide) (by decide))) ?_
        refine mv_calls X [vI (aI W0 (ad 104) i), vI (aI W0 (ad 105) i)] [vI (gI (xI W0 (ad 108) i 0) 102 o), vR (some o)] (k_M_cellsOf l (xI W0 (ad 108) i 0) (aI W0 (ad 104) i) (aI W0 (ad 105) i)) d_M_drop_70 cs_M_79 ⟨Nat.le_of_ble_eq_true rfl, Nat.le_of_ble_eq_true rfl⟩ ⟨Nat.le_of_ble_eq_true rfl, Nat.le_of_ble_eq_true rfl⟩ rfl (Nat.le_of_ble_eq_true rfl) (fun v70 w70 hp70 => ?_)
        obtain ⟨rfl, rfl⟩ := hp70
        refine mv_isub X d_M_drop_73 ?_
        refine mv_puti X d_M_drop_74 f_M_70 (mIs.one hM.1) rfl rfl ?_
        refine mv_aload_n X 0 d_M_drop_77 rfl ?_
        refine mv_aload_n X 0 d_M_drop_78 rfl ?_
        refine mv_geti (w := (sI (xI W0 (ad 108) i 0) 102 o ((gI (xI W0 (ad 108) i 0) 102 o) - (cOf (aI W0 (ad 104) i) (aI W0 (ad 105) i))))) X d_M_drop_79 f_M_83 (mIs.one hM.1) rfl ?_
        refine mv_iconst (v := 1) X d_M_drop_82 (by decide) ?_
        refine mv_isub X d_M_drop_83 ?_
        refine mv_puti X d_M_drop_84 f_M_83 (mIs.one hM.1) rfl rfl ?_
        exact mv_ret_v X d_M_drop_87 rfl (Nat.le_of_ble_eq_true rfl) (Nat.le_of_ble_eq_true rfl) (⟨rfl, rfl⟩)
      · exact absurd (by decide) h6
    | cons c1 P ih =>
      intro W0 hM hch hnd
      obtain ⟨hc1, hc2, hc3⟩ := id hch
      have hn1 : c1 ∉ P := (List.nodup_cons.mp hnd).1
      refine mv_aload_n X 0 d_M_drop_0 rfl ?_
      refine mv_getr (w := W0) X d_M_drop_1 f_M_20 (mIs.one hM.1) hM.r106 ?_
      refine mv_iload_n X 1 d_M_drop_4 rfl ?_
      refine mv_iald (x := nI c1) X d_M_drop_5 rfl rfl hM.k106 rfl hi (by decide) hc1 ?_
      refine mv_if_lt (tgt := 46) X d_M_drop_6 (by decide) (fun h6 => ?_) (fun h6 => ?_)
      · exact absurd h6 (nI_pos (by omega))
      · refine mv_aload_n X 0 d_M_drop_9 rfl ?_
        refine mv_getr (w := W0) X d_M_drop_10 f_M_20 (mIs.one hM.1) hM.r106 ?_
        refine mv_iload_n X 1 d_M_drop_13 rfl ?_
        refine mv_iald (x := nI c1) X d_M_drop_14 rfl rfl hM.k106 rfl hi (by decide) hc1 ?_
        refine mv_istore_n (lv' := [(2, vI (nI c1)), (0, vR (some o)), (1, vI (nI i))]) X d_M_drop_15 (by decide) rfl ?_
        refine mv_aload_n X 1 d_M_drop_16 rfl ?_
        refine mv_getr (w := W0) X d_M_drop_17 f_M_20 (mIs.one hM.1) hM.r106 ?_
        refine mv_iload_n X 2 d_M_drop_20 rfl ?_
        refine mv_aload_n X 1 d_M_drop_21 rfl ?_
        refine mv_getr (w := W0) X d_M_drop_22 f_M_39 (mIs.one hM.1) hM.r113 ?_
        refine mv_iload_n X 0 d_M_drop_25 rfl ?_
        refine mv_iald (x := aI W0 (ad 113) c1) X d_M_drop_26 rfl rfl hM.k113 rfl hc2 (by decide) rfl ?_
        refine mv_iast X d_M_drop_27 rfl rfl hM.k106 rfl hi (by decide) ?_
        refine mv_aload_n X 1 d_M_drop_28 rfl ?_
        refine mv_getr (w := (xI W0 (ad 106) i (aI W0 (ad 113) c1))) X d_M_drop_29 f_M_39 (mIs.one hM.1) hM.r113 ?_
        refine mv_iload_n X 0 d_M_drop_32 rfl ?_
        refine mv_aload_n X 1 d_M_drop_33 rfl ?_
        refine mv_geti (w := (xI W0 (ad 106) i (aI W0 (ad 113) c1))) X d_M_drop_34 f_M_76 (mIs.one hM.1) rfl ?_
        refine mv_iast X d_M_drop_37 rfl rfl hM.k113 rfl hc2 (by decide) ?_
        refine mv_aload_n X 1 d_M_drop_38 rfl ?_
        refine mv_iload_n X 0 d_M_drop_39 rfl ?_
        refine mv_puti X d_M_drop_40 f_M_76 (mIs.one hM.1) rfl rfl ?_
        refine mv_goto (tgt := 0) X d_M_drop_43 (by decide) ?_
        have h0 := ih (drS W0 ad o i c1) (hM.to rfl rfl) (drS_lk (hM.ne (by decide) (by decide) (by decide)) hch hn1) (List.nodup_cons.mp hnd).2
        have e1 : gI (drS W0 ad o i c1) 102 o = gI W0 102 o := rfl
        have e2 : gI (drS W0 ad o i c1) 103 o = gI W0 103 o := rfl
        have e3 : aI (drS W0 ad o i c1) (ad 104) = aI W0 (ad 104) := by unfold drS; rw [aI_sI, aI_xI_nk _ _ _ _ (hM.ne (by decide) (by decide) (by decide)), aI_xI_nk _ _ _ _ (hM.ne (by decide) (by decide) (by decide))]
        have e4 : aI (drS W0 ad o i c1) (ad 105) = aI W0 (ad 105) := by unfold drS; rw [aI_sI, aI_xI_nk _ _ _ _ (hM.ne (by decide) (by decide) (by decide)), aI_xI_nk _ _ _ _ (hM.ne (by decide) (by decide) (by decide))]
        rw [e1, e2, e3, e4] at h0
        exact mv_sub [1, 2] rfl h0
  exact key P w hM hch hnd
