theorem ws_M : ∀ w ∈ u_ws "VisibleHeapModel" T_M 23, w ∈ tables_1 ∧ goodWord w = true := by decide +kernel
theorem tab_M : mTab 0 "VisibleHeapModel" T_M 23 ty_M := ⟨rfl, fun w h => mA (ws_M w h).1 (ws_M w h).2, by decide +kernel, by decide +kernel, by decide +kernel, by decide +kernel⟩
theorem ws_H : ∀ w ∈ u_ws "VisibleHeap" T_H 10, w ∈ tables_1 ∧ goodWord w = true := by decide +kernel
theorem tab_H : mTab 1 "VisibleHeap" T_H 10 ty_H := ⟨rfl, fun w h => mA (ws_H w h).1 (ws_H w h).2, by decide +kernel, by decide +kernel, by decide +kernel, by decide +kernel⟩
theorem ws_Num : ∀ w ∈ u_ws "VisibleHeap$Num" T_Num 2, w ∈ tables_1 ∧ goodWord w = true := by decide +kernel
theorem tab_Num : mTab 2 "VisibleHeap$Num" T_Num 2 ty_Num := ⟨rfl, fun w h => mA (ws_Num w h).1 (ws_Num w h).2, by decide +kernel, by decide +kernel, by decide +kernel, by decide +kernel⟩
theorem ws_Row : ∀ w ∈ u_ws "VisibleHeap$Row" T_Row 7, w ∈ tables_1 ∧ goodWord w = true := by decide +kernel
theorem tab_Row : mTab 3 "VisibleHeap$Row" T_Row 7 ty_Row := ⟨rfl, fun w h => mA (ws_Row w h).1 (ws_Row w h).2, by decide +kernel, by decide +kernel, by decide +kernel, by decide +kernel⟩
theorem ws_Weak : ∀ w ∈ u_ws "VisibleHeap$Weak" T_Weak 7, w ∈ tables_1 ∧ goodWord w = true := by decide +kernel
theorem tab_Weak : mTab 4 "VisibleHeap$Weak" T_Weak 7 ty_Weak := ⟨rfl, fun w h => mA (ws_Weak w h).1 (ws_Weak w h).2, by decide +kernel, by decide +kernel, by decide +kernel, by decide +kernel⟩
theorem ws_Eph : ∀ w ∈ u_ws "VisibleHeap$Ephemeron" T_Eph 7, w ∈ tables_1 ∧ goodWord w = true := by decide +kernel
theorem tab_Eph : mTab 5 "VisibleHeap$Ephemeron" T_Eph 7 ty_Eph := ⟨rfl, fun w h => mA (ws_Eph w h).1 (ws_Eph w h).2, by decide +kernel, by decide +kernel, by decide +kernel, by decide +kernel⟩
theorem ws_Tab : ∀ w ∈ u_ws "VisibleHeap$Table" T_Tab 7, w ∈ tables_1 ∧ goodWord w = true := by decide +kernel
theorem tab_Tab : mTab 6 "VisibleHeap$Table" T_Tab 7 ty_Tab := ⟨rfl, fun w h => mA (ws_Tab w h).1 (ws_Tab w h).2, by decide +kernel, by decide +kernel, by decide +kernel, by decide +kernel⟩
theorem ws_Tie : ∀ w ∈ u_ws "VisibleHeap$Tie" T_Tie 4, w ∈ tables_1 ∧ goodWord w = true := by decide +kernel
theorem tab_Tie : mTab 7 "VisibleHeap$Tie" T_Tie 4 ty_Tie := ⟨rfl, fun w h => mA (ws_Tie w h).1 (ws_Tie w h).2, by decide +kernel, by decide +kernel, by decide +kernel, by decide +kernel⟩
theorem ws_TL : ∀ w ∈ u_ws "VisibleHeap$TieList" T_TL 3, w ∈ tables_1 ∧ goodWord w = true := by decide +kernel
theorem tab_TL : mTab 8 "VisibleHeap$TieList" T_TL 3 ty_TL := ⟨rfl, fun w h => mA (ws_TL w h).1 (ws_TL w h).2, by decide +kernel, by decide +kernel, by decide +kernel, by decide +kernel⟩
theorem ws_Rk : ∀ w ∈ u_ws "VisibleHeap$Reckoning" T_Rk 1, w ∈ tables_1 ∧ goodWord w = true := by decide +kernel
theorem tab_Rk : mTab 9 "VisibleHeap$Reckoning" T_Rk 1 ty_Rk := ⟨rfl, fun w h => mA (ws_Rk w h).1 (ws_Rk w h).2, by decide +kernel, by decide +kernel, by decide +kernel, by decide +kernel⟩
set_option maxRecDepth 100000 in
theorem cs_M_62 : cS "VisibleHeapModel" 62 y_M_isObject c_M_isObject 2 (some .boolean) 1 := ⟨mA (by decide +kernel) (by decide +kernel), mA (by decide +kernel) (by decide +kernel), mA (by decide +kernel) (by decide +kernel), mA (List.mem_of_getElem? (i := 610) rfl) (by decide +kernel), ⟨by decide, by decide, by decide +kernel⟩⟩
theorem f_M_13 : sOk "VisibleHeapModel" 13 [0] 104 true true false (.array .int) := by
  intro c hc
  · rw [List.mem_singleton] at hc
    subst hc
    exact ⟨_, _, _, _, 4, "VisibleHeapModel", tab_M, by decide, mA (by decide +kernel) (by decide +kernel), Or.inl rfl, rfl, rfl, rfl, fun h => absurd h (by decide), rfl⟩
theorem f_M_30 : sOk "VisibleHeapModel" 30 [0] 109 true true false (.array .boolean) := by
  intro c hc
  · rw [List.mem_singleton] at hc
    subst hc
    exact ⟨_, _, _, _, 9, "VisibleHeapModel", tab_M, by decide, mA (by decide +kernel) (by decide +kernel), Or.inl rfl, rfl, rfl, rfl, fun h => absurd h (by decide), rfl⟩
theorem f_M_17 : sOk "VisibleHeapModel" 17 [0] 105 true true false (.array .int) := by
  intro c hc
  · rw [List.mem_singleton] at hc
    subst hc
    exact ⟨_, _, _, _, 5, "VisibleHeapModel", tab_M, by decide, mA (by decide +kernel) (by decide +kernel), Or.inl rfl, rfl, rfl, rfl, fun h => absurd h (by decide), rfl⟩
theorem f_M_20 : sOk "VisibleHeapModel" 20 [0] 106 true true false (.array .int) := by
  intro c hc
  · rw [List.mem_singleton] at hc
    subst hc
    exact ⟨_, _, _, _, 6, "VisibleHeapModel", tab_M, by decide, mA (by decide +kernel) (by decide +kernel), Or.inl rfl, rfl, rfl, rfl, fun h => absurd h (by decide), rfl⟩
theorem f_M_39 : sOk "VisibleHeapModel" 39 [0] 113 true true false (.array .int) := by
  intro c hc
  · rw [List.mem_singleton] at hc
    subst hc
    exact ⟨_, _, _, _, 13, "VisibleHeapModel", tab_M, by decide, mA (by decide +kernel) (by decide +kernel), Or.inl rfl, rfl, rfl, rfl, fun h => absurd h (by decide), rfl⟩
theorem f_M_36 : sOk "VisibleHeapModel" 36 [0] 112 true true false (.array .long) := by
  intro c hc
  · rw [List.mem_singleton] at hc
    subst hc
    exact ⟨_, _, _, _, 12, "VisibleHeapModel", tab_M, by decide, mA (by decide +kernel) (by decide +kernel), Or.inl rfl, rfl, rfl, rfl, fun h => absurd h (by decide), rfl⟩
set_option maxRecDepth 100000 in
theorem cv_M_66 : cV "VisibleHeapModel" 66 0 y_M_cellAt c_M_cellAt 6 (some .int) 2 := ⟨mA (by decide +kernel) (by decide +kernel), mA (by decide +kernel) (by decide +kernel), mA (by decide +kernel) (by decide +kernel), mA (List.mem_of_getElem? (i := 628) rfl) (by decide +kernel), ⟨by decide, by decide, by decide +kernel⟩, _, rfl, mAs (by decide +kernel) (by decide +kernel)⟩
set_option maxRecDepth 100000 in
theorem cv_M_88 : cV "VisibleHeapModel" 88 0 y_M_isLive c_M_isLive 3 (some .boolean) 1 := ⟨mA (by decide +kernel) (by decide +kernel), mA (by decide +kernel) (by decide +kernel), mA (by decide +kernel) (by decide +kernel), mA (List.mem_of_getElem? (i := 607) rfl) (by decide +kernel), ⟨by decide, by decide, by decide +kernel⟩, _, rfl, mAs (by decide +kernel) (by decide +kernel)⟩
theorem f_M_33 : sOk "VisibleHeapModel" 33 [0] 110 true true false (.array .int) := by
  intro c hc
  · rw [List.mem_singleton] at hc
    subst hc
    exact ⟨_, _, _, _, 10, "VisibleHeapModel", tab_M, by decide, mA (by decide +kernel) (by decide +kernel), Or.inl rfl, rfl, rfl, rfl, fun h => absurd h (by decide), rfl⟩
theorem f_M_91 : sOk "VisibleHeapModel" 91 [0] 111 false false false .int := by
  intro c hc
  · rw [List.mem_singleton] at hc
    subst hc
    exact ⟨_, _, _, _, 11, "VisibleHeapModel", tab_M, by decide, mA (by decide +kernel) (by decide +kernel), Or.inl rfl, rfl, rfl, rfl, fun h => absurd h (by decide), rfl⟩
set_option maxRecDepth 100000 in
theorem cs_M_137 : cS "VisibleHeapModel" 137 y_M_isRegister c_M_isRegister 1 (some .boolean) 1 := ⟨mA (by decide +kernel) (by decide +kernel), mA (by decide +kernel) (by decide +kernel), mA (by decide +kernel) (by decide +kernel), mA (List.mem_of_getElem? (i := 575) rfl) (by decide +kernel), ⟨by decide, by decide, by decide +kernel⟩⟩
theorem f_M_7 : sOk "VisibleHeapModel" 7 [0] 101 true true false (.array .long) := by
  intro c hc
  · rw [List.mem_singleton] at hc
    subst hc
    exact ⟨_, _, _, _, 1, "VisibleHeapModel", tab_M, by decide, mA (by decide +kernel) (by decide +kernel), Or.inl rfl, rfl, rfl, rfl, fun h => absurd h (by decide), rfl⟩
theorem f_M_70 : sOk "VisibleHeapModel" 70 [0] 102 false false false .int := by
  intro c hc
  · rw [List.mem_singleton] at hc
    subst hc
    exact ⟨_, _, _, _, 2, "VisibleHeapModel", tab_M, by decide, mA (by decide +kernel) (by decide +kernel), Or.inl rfl, rfl, rfl, rfl, fun h => absurd h (by decide), rfl⟩
theorem f_M_83 : sOk "VisibleHeapModel" 83 [0] 103 false false false .int := by
  intro c hc
  · rw [List.mem_singleton] at hc
    subst hc
    exact ⟨_, _, _, _, 3, "VisibleHeapModel", tab_M, by decide, mA (by decide +kernel) (by decide +kernel), Or.inl rfl, rfl, rfl, rfl, fun h => absurd h (by decide), rfl⟩
theorem f_M_124 : sOk "VisibleHeapModel" 124 [0] 121 false false false .int := by
  intro c hc
  · rw [List.mem_singleton] at hc
    subst hc
    exact ⟨_, _, _, _, 21, "VisibleHeapModel", tab_M, by decide, mA (by decide +kernel) (by decide +kernel), Or.inl rfl, rfl, rfl, rfl, fun h => absurd h (by decide), rfl⟩
theorem f_M_113 : sOk "VisibleHeapModel" 113 [0] 118 false false false .int := by
  intro c hc
  · rw [List.mem_singleton] at hc
    subst hc
    exact ⟨_, _, _, _, 18, "VisibleHeapModel", tab_M, by decide, mA (by decide +kernel) (by decide +kernel), Or.inl rfl, rfl, rfl, rfl, fun h => absurd h (by decide), rfl⟩
theorem f_M_107 : sOk "VisibleHeapModel" 107 [0] 115 false false false .int := by
  intro c hc
  · rw [List.mem_singleton] at hc
    subst hc
    exact ⟨_, _, _, _, 15, "VisibleHeapModel", tab_M, by decide, mA (by decide +kernel) (by decide +kernel), Or.inl rfl, rfl, rfl, rfl, fun h => absurd h (by decide), rfl⟩
theorem f_M_165 : sOk "VisibleHeapModel" 165 [0] 122 false false false .int := by
  intro c hc
  · rw [List.mem_singleton] at hc
    subst hc
    exact ⟨_, _, _, _, 22, "VisibleHeapModel", tab_M, by decide, mA (by decide +kernel) (by decide +kernel), Or.inl rfl, rfl, rfl, rfl, fun h => absurd h (by decide), rfl⟩
theorem f_M_42 : sOk "VisibleHeapModel" 42 [0] 116 true true false (.array .long) := by
  intro c hc
  · rw [List.mem_singleton] at hc
    subst hc
    exact ⟨_, _, _, _, 16, "VisibleHeapModel", tab_M, by decide, mA (by decide +kernel) (by decide +kernel), Or.inl rfl, rfl, rfl, rfl, fun h => absurd h (by decide), rfl⟩
theorem f_M_45 : sOk "VisibleHeapModel" 45 [0] 117 true true false (.array .long) := by
  intro c hc
  · rw [List.mem_singleton] at hc
    subst hc
    exact ⟨_, _, _, _, 17, "VisibleHeapModel", tab_M, by decide, mA (by decide +kernel) (by decide +kernel), Or.inl rfl, rfl, rfl, rfl, fun h => absurd h (by decide), rfl⟩
set_option maxRecDepth 100000 in
theorem cv_M_150 : cV "VisibleHeapModel" 150 0 y_M_shown c_M_shown 3 (some .int) 1 := ⟨mA (by decide +kernel) (by decide +kernel), mA (by decide +kernel) (by decide +kernel), mA (by decide +kernel) (by decide +kernel), mA (List.mem_of_getElem? (i := 657) rfl) (by decide +kernel), ⟨by decide, by decide, by decide +kernel⟩, _, rfl, mAs (by decide +kernel) (by decide +kernel)⟩
set_option maxRecDepth 100000 in
theorem cv_M_98 : cV "VisibleHeapModel" 98 0 y_M_field c_M_field 4 (some .long) 2 := ⟨mA (by decide +kernel) (by decide +kernel), mA (by decide +kernel) (by decide +kernel), mA (by decide +kernel) (by decide +kernel), mA (List.mem_of_getElem? (i := 624) rfl) (by decide +kernel), ⟨by decide, by decide, by decide +kernel⟩, _, rfl, mAs (by decide +kernel) (by decide +kernel)⟩
theorem f_M_48 : sOk "VisibleHeapModel" 48 [0] 119 true true false (.array .long) := by
  intro c hc
  · rw [List.mem_singleton] at hc
    subst hc
    exact ⟨_, _, _, _, 19, "VisibleHeapModel", tab_M, by decide, mA (by decide +kernel) (by decide +kernel), Or.inl rfl, rfl, rfl, rfl, fun h => absurd h (by decide), rfl⟩
theorem f_M_51 : sOk "VisibleHeapModel" 51 [0] 120 true true false (.array .long) := by
  intro c hc
  · rw [List.mem_singleton] at hc
    subst hc
    exact ⟨_, _, _, _, 20, "VisibleHeapModel", tab_M, by decide, mA (by decide +kernel) (by decide +kernel), Or.inl rfl, rfl, rfl, rfl, fun h => absurd h (by decide), rfl⟩
set_option maxRecDepth 100000 in
theorem cv_M_154 : cV "VisibleHeapModel" 154 0 y_M_is c_M_is 4 (some .boolean) 2 := ⟨mA (by decide +kernel) (by decide +kernel), mA (by decide +kernel) (by decide +kernel), mA (by decide +kernel) (by decide +kernel), mA (List.mem_of_getElem? (i := 665) rfl) (by decide +kernel), ⟨by decide, by decide, by decide +kernel⟩, _, rfl, mAs (by decide +kernel) (by decide +kernel)⟩
set_option maxRecDepth 100000 in
theorem cv_M_158 : cV "VisibleHeapModel" 158 0 y_M_entryOf c_M_entryOf 7 (some .long) 2 := ⟨mA (by decide +kernel) (by decide +kernel), mA (by decide +kernel) (by decide +kernel), mA (by decide +kernel) (by decide +kernel), mA (List.mem_of_getElem? (i := 673) rfl) (by decide +kernel), ⟨by decide, by decide, by decide +kernel⟩, _, rfl, mAs (by decide +kernel) (by decide +kernel)⟩
set_option maxRecDepth 100000 in
theorem cv_M_120 : cV "VisibleHeapModel" 120 0 y_M_setField c_M_setField 6 none 3 := ⟨mA (by decide +kernel) (by decide +kernel), mA (by decide +kernel) (by decide +kernel), mA (by decide +kernel) (by decide +kernel), mA (List.mem_of_getElem? (i := 637) rfl) (by decide +kernel), ⟨by decide, by decide, by decide +kernel⟩, _, rfl, mAs (by decide +kernel) (by decide +kernel)⟩
theorem f_M_23 : sOk "VisibleHeapModel" 23 [0] 107 true true false (.array .int) := by
  intro c hc
  · rw [List.mem_singleton] at hc
    subst hc
    exact ⟨_, _, _, _, 7, "VisibleHeapModel", tab_M, by decide, mA (by decide +kernel) (by decide +kernel), Or.inl rfl, rfl, rfl, rfl, fun h => absurd h (by decide), rfl⟩
set_option maxRecDepth 100000 in
theorem cv_M_162 : cV "VisibleHeapModel" 162 0 y_M_entryCount c_M_entryCount 6 (some .int) 1 := ⟨mA (by decide +kernel) (by decide +kernel), mA (by decide +kernel) (by decide +kernel), mA (by decide +kernel) (by decide +kernel), mA (List.mem_of_getElem? (i := 697) rfl) (by decide +kernel), ⟨by decide, by decide, by decide +kernel⟩, _, rfl, mAs (by decide +kernel) (by decide +kernel)⟩
theorem f_M_26 : sOk "VisibleHeapModel" 26 [0] 108 true true false (.array .boolean) := by
  intro c hc
  · rw [List.mem_singleton] at hc
    subst hc
    exact ⟨_, _, _, _, 8, "VisibleHeapModel", tab_M, by decide, mA (by decide +kernel) (by decide +kernel), Or.inl rfl, rfl, rfl, rfl, fun h => absurd h (by decide), rfl⟩
set_option maxRecDepth 100000 in
theorem cs_M_79 : cS "VisibleHeapModel" 79 y_M_cellsOf c_M_cellsOf 2 (some .int) 2 := ⟨mA (by decide +kernel) (by decide +kernel), mA (by decide +kernel) (by decide +kernel), mA (by decide +kernel) (by decide +kernel), mA (List.mem_of_getElem? (i := 587) rfl) (by decide +kernel), ⟨by decide, by decide, by decide +kernel⟩⟩
theorem f_M_76 : sOk "VisibleHeapModel" 76 [0] 114 false false false .int := by
  intro c hc
  · rw [List.mem_singleton] at hc
    subst hc
    exact ⟨_, _, _, _, 14, "VisibleHeapModel", tab_M, by decide, mA (by decide +kernel) (by decide +kernel), Or.inl rfl, rfl, rfl, rfl, fun h => absurd h (by decide), rfl⟩
