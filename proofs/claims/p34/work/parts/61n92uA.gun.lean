def gUD_0 : List zUD := [(0, 0, 1, [0], [], [])]
def gUD_1 : List zUD := [(32, 0, 3, [0, 1], [], []), (33, 0, 1, [0], [], [])]
def gUD_2 : List zUD := [(1056, 0, 7, [0, 1], [3105], []), (1057, 0, 1, [0], [], [])]
def gUD_3 : List zUD := [(100384, 0, 15, [1, 2, 3, 4], [30754], []), (135201, 0, 5, [0, 3], [], []), (133250, 0, 3, [0, 2], [], []), (102531, 0, 3, [0, 1], [], []), (135300, 0, 1, [0], [], [])]
def gUD_4 : List zUD := [(67616, 0, 15, [0, 1, 2], [6178], []), (67617, 0, 5, [0, 1], [], []), (67650, 0, 1, [0], [], [])]
def gUD_5 : List zUD := [(66624, 0, 15, [0, 1, 2], [6177], []), (66625, 0, 3, [0, 1], [], []), (67650, 0, 1, [0], [], [])]
def gUD_6 : List zUD := [(34880, 0, 15, [0, 1, 2], [6177], []), (34881, 0, 3, [0, 1], [], []), (67650, 0, 1, [0], [], [])]
def gUD_7 : List zUD := [(1082400, 0, 31, [0, 1], [3105], []), (1082401, 0, 1, [0], [], [])]
def gUD_8 : List zUD := [(1082400, 0, 31, [0, 1], [3105], []), (1082401, 0, 1, [0], [], [])]
def gUD_9 : List zUD := [(1082400, 0, 31, [0, 1], [3105], []), (1082401, 0, 1, [0], [], [])]
def gUD_10 : List zUD := [(1082400, 0, 31, [0, 1], [3105], []), (1082401, 0, 1, [0], [], [])]
def gUD_11 : List zUD := [(1082400, 0, 31, [0, 1], [3105], []), (1082401, 0, 1, [0], [], [])]
def gUD_12 : List zUD := [(1082400, 0, 31, [0, 1], [3105], []), (1082401, 0, 1, [0], [], [])]
def gUD_13 : List zUD := [(102860832, 0, 63, [0, 1, 2, 3], [10306, 15394], [[161]]), (103910433, 0, 21, [0, 2], [5186], []), (102860898, 0, 3, [0, 1], [], []), (103910499, 0, 1, [0], [], [])]
def gUD_14 : List zUD := [(102829088, 0, 63, [0, 1, 2, 3], [10306, 15394], [[161]]), (103910433, 0, 21, [0, 2], [5186], []), (102829154, 0, 3, [0, 1], [], []), (103910499, 0, 1, [0], [], [])]
def gUD_15 : List zUD := [(70323232, 0, 63, [0, 1, 2, 3], [10306, 15394], [[161]]), (103910433, 0, 21, [0, 2], [5186], []), (70323298, 0, 3, [0, 1], [], []), (103910499, 0, 1, [0], [], [])]
def gUD_16 : List zUD := [(70354976, 0, 63, [0, 1, 2, 3], [10306, 15394], [[161]]), (103910433, 0, 21, [0, 2], [5186], []), (70355042, 0, 3, [0, 1], [], []), (103910499, 0, 1, [0], [], [])]
def gUD_17 : List zUD := [(35718176, 67112960, 63, [1, 2, 3], [10274], []), (1073740833, 0, 1, [2], [], []), (102829154, 0, 3, [0, 1], [], []), (103910499, 0, 1, [0], [], [])]
def gUD_18 : List zUD := [(68192288, 2228224, 63, [1, 2, 3], [10274], []), (1073740833, 0, 1, [2], [], []), (70355042, 0, 3, [0, 1], [], []), (103910499, 0, 1, [0], [], [])]
def gUD_19 : List zUD := [(68224032, 2101248, 63, [1, 2, 3], [10274], []), (1073740833, 0, 1, [2], [], []), (70323298, 0, 3, [0, 1], [], []), (103910499, 0, 1, [0], [], [])]
def gUD_20 : List zUD := [(35686432, 67239936, 63, [1, 2, 3], [10274], []), (1073740833, 0, 1, [2], [], []), (102860898, 0, 3, [0, 1], [], []), (103910499, 0, 1, [0], [], [])]
def gUD_21 : List zUD := [(35718176, 67111936, 63, [1, 2, 3], [10274], []), (1073740833, 0, 1, [2], [], []), (102829154, 0, 3, [0, 1], [], []), (103910499, 0, 1, [0], [], [])]
def gUD_22 : List zUD := [(68192288, 3211264, 63, [1, 2, 3], [10274], []), (1073740833, 0, 1, [2], [], []), (70355042, 0, 3, [0, 1], [], []), (103910499, 0, 1, [0], [], [])]
def gUD_23 : List zUD := [(103876640, 0, 63, [0, 1, 2, 3], [10306, 15394], [[161]]), (103910433, 0, 13, [0, 2], [5186], []), (103876706, 0, 3, [0, 1], [], []), (103910499, 0, 1, [0], [], [])]
def gUD_24 : List zUD := [(102829088, 0, 63, [0, 1, 2, 3], [10306, 15394], [[161]]), (103910433, 0, 13, [0, 2], [5186], []), (102829154, 0, 3, [0, 1], [], []), (103910499, 0, 1, [0], [], [])]
def gUD_25 : List zUD := [(69307424, 0, 63, [0, 1, 2, 3], [10306, 15394], [[161]]), (103910433, 0, 13, [0, 2], [5186], []), (69307490, 0, 3, [0, 1], [], []), (103910499, 0, 1, [0], [], [])]
def gUD_26 : List zUD := [(70354976, 0, 63, [0, 1, 2, 3], [10306, 15394], [[161]]), (103910433, 0, 13, [0, 2], [5186], []), (70355042, 0, 3, [0, 1], [], []), (103910499, 0, 1, [0], [], [])]
def gUD_27 : List zUD := [(69239840, 68608, 63, [1, 2, 3], [10274], []), (1073740833, 0, 1, [2], [], []), (69307490, 0, 3, [0, 1], [], []), (103910499, 0, 1, [0], [], [])]
def gUD_28 : List zUD := [(34670624, 70254592, 63, [1, 2, 3], [10274], []), (1073740833, 0, 1, [2], [], []), (103876706, 0, 3, [0, 1], [], []), (103910499, 0, 1, [0], [], [])]
def gUD_29 : List zUD := [(68224032, 2100224, 63, [1, 2, 3], [10274], []), (1073740833, 0, 1, [2], [], []), (70323298, 0, 3, [0, 1], [], []), (103910499, 0, 1, [0], [], [])]
def gUD_30 : List zUD := [(35686432, 100728832, 63, [1, 2, 3], [10274], []), (1073740833, 0, 1, [2], [], []), (102860898, 0, 3, [0, 1], [], []), (103910499, 0, 1, [0], [], [])]
def gUD_31 : List zUD := [(69239840, 68608, 63, [1, 2, 3], [10274], []), (1073740833, 0, 1, [2], [], []), (69307490, 0, 3, [0, 1], [], []), (103910499, 0, 1, [0], [], [])]
def gUD_32 : List zUD := [(34670624, 102760448, 63, [1, 2, 3], [10274], []), (1073740833, 0, 1, [2], [], []), (103876706, 0, 3, [0, 1], [], []), (103910499, 0, 1, [0], [], [])]
def gUD_33 : List zUD := [(103876640, 0, 63, [0, 1, 2, 3], [10306, 15394], [[161]]), (103910433, 0, 13, [0, 2], [5186], []), (103876706, 0, 3, [0, 1], [], []), (103910499, 0, 1, [0], [], [])]
def gUD_34 : List zUD := [(70323232, 0, 63, [0, 1, 2, 3], [10306, 15394], [[161]]), (103910433, 0, 13, [0, 2], [5186], []), (70323298, 0, 3, [0, 1], [], []), (103910499, 0, 1, [0], [], [])]
def gUD_35 : List zUD := [(69307424, 0, 63, [0, 1, 2, 3], [10306, 15394], [[161]]), (103910433, 0, 13, [0, 2], [5186], []), (69307490, 0, 3, [0, 1], [], []), (103910499, 0, 1, [0], [], [])]
def gUD_36 : List zUD := [(102860832, 0, 63, [0, 1, 2, 3], [10306, 15394], [[161]]), (103910433, 0, 13, [0, 2], [5186], []), (102860898, 0, 3, [0, 1], [], []), (103910499, 0, 1, [0], [], [])]
def gUD_37 : List zUD := [(103843904, 0, 63, [0, 1, 2, 3], [10273, 15395], [[161]]), (103844961, 0, 7, [0, 2], [5153], []), (103909442, 0, 9, [0, 1], [], []), (103910499, 0, 1, [0], [], [])]
def gUD_38 : List zUD := [(101812288, 0, 63, [0, 1, 2, 3], [10273, 15395], [[161]]), (101813345, 0, 7, [0, 2], [5153], []), (103909442, 0, 9, [0, 1], [], []), (103910499, 0, 1, [0], [], [])]
def gUD_39 : List zUD := [(36800576, 0, 63, [0, 1, 2, 3], [10273, 15396], [[161]]), (36801633, 0, 7, [0, 2], [5153], []), (103909442, 0, 9, [0, 1], [], []), (103910499, 0, 1, [0], [], [])]
def gUD_40 : List zUD := [(34637888, 68157440, 63, [1, 2, 3], [10273], []), (1072758753, 0, 1, [2], [], []), (103909442, 0, 9, [0, 1], [], []), (103910499, 0, 1, [0], [], [])]
def gUD_41 : List zUD := [(34637888, 35651584, 63, [1, 2, 3], [10273], []), (1072758753, 0, 1, [2], [], []), (103909442, 0, 9, [0, 1], [], []), (103910499, 0, 1, [0], [], [])]
def gUD_42 : List zUD := [(103843904, 0, 63, [0, 1, 2, 3], [10273, 15395], [[161]]), (103844961, 0, 7, [0, 2], [5153], []), (103909442, 0, 9, [0, 1], [], []), (103910499, 0, 1, [0], [], [])]
def gUD_43 : List zUD := [(36800576, 0, 63, [0, 1, 2, 3], [10273, 15395], [[161]]), (36801633, 0, 7, [0, 2], [5153], []), (103909442, 0, 9, [0, 1], [], []), (103910499, 0, 1, [0], [], [])]
def gUD_44 : List zUD := [(101812288, 0, 63, [0, 1, 2, 3], [10273, 15396], [[161]]), (101813345, 0, 7, [0, 2], [5153], []), (103909442, 0, 9, [0, 1], [], []), (103910499, 0, 1, [0], [], [])]
def gUD_45 : List zUD := [(102795360, 0, 63, [0, 1, 2, 3], [10273, 15394], [[161]]), (103844961, 0, 7, [0, 2], [5153], []), (102860898, 0, 3, [0, 1], [], []), (103910499, 0, 1, [0], [], [])]
def gUD_46 : List zUD := [(70289504, 0, 63, [0, 1, 2, 3], [10273, 15394], [[161]]), (103844961, 0, 7, [0, 2], [5153], []), (70355042, 0, 3, [0, 1], [], []), (103910499, 0, 1, [0], [], [])]
def gUD_47 : List zUD := [(68257888, 0, 63, [0, 1, 2, 3], [10273, 15394], [[161]]), (101813345, 0, 7, [0, 2], [5153], []), (70355042, 0, 3, [0, 1], [], []), (103910499, 0, 1, [0], [], [])]
def gUD_48 : List zUD := [(101779552, 0, 63, [0, 1, 2, 3], [10273, 15394], [[161]]), (101813345, 0, 7, [0, 2], [5153], []), (103876706, 0, 3, [0, 1], [], []), (103910499, 0, 1, [0], [], [])]
theorem kun_0 : kunW gT_0 gUD_0 = true := by decide +kernel
theorem kun_1 : kunW gT_1 gUD_1 = true := by decide +kernel
theorem kun_2 : kunW gT_2 gUD_2 = true := by decide +kernel
theorem kun_3 : kunW gT_3 gUD_3 = true := by decide +kernel
theorem kun_4 : kunW gT_4 gUD_4 = true := by decide +kernel
theorem kun_5 : kunW gT_5 gUD_5 = true := by decide +kernel
theorem kun_6 : kunW gT_6 gUD_6 = true := by decide +kernel
theorem kun_7 : kunW gT_7 gUD_7 = true := by decide +kernel
theorem kun_8 : kunW gT_8 gUD_8 = true := by decide +kernel
theorem kun_9 : kunW gT_9 gUD_9 = true := by decide +kernel
theorem kun_10 : kunW gT_10 gUD_10 = true := by decide +kernel
theorem kun_11 : kunW gT_11 gUD_11 = true := by decide +kernel
theorem kun_12 : kunW gT_12 gUD_12 = true := by decide +kernel
theorem kun_13 : kunW gT_13 gUD_13 = true := by decide +kernel
theorem kun_14 : kunW gT_14 gUD_14 = true := by decide +kernel
theorem kun_15 : kunW gT_15 gUD_15 = true := by decide +kernel
theorem kun_16 : kunW gT_16 gUD_16 = true := by decide +kernel
theorem kun_17 : kunW gT_17 gUD_17 = true := by decide +kernel
theorem kun_18 : kunW gT_18 gUD_18 = true := by decide +kernel
theorem kun_19 : kunW gT_19 gUD_19 = true := by decide +kernel
theorem kun_20 : kunW gT_20 gUD_20 = true := by decide +kernel
theorem kun_21 : kunW gT_21 gUD_21 = true := by decide +kernel
theorem kun_22 : kunW gT_22 gUD_22 = true := by decide +kernel
theorem kun_23 : kunW gT_23 gUD_23 = true := by decide +kernel
theorem kun_24 : kunW gT_24 gUD_24 = true := by decide +kernel
theorem kun_25 : kunW gT_25 gUD_25 = true := by decide +kernel
theorem kun_26 : kunW gT_26 gUD_26 = true := by decide +kernel
theorem kun_27 : kunW gT_27 gUD_27 = true := by decide +kernel
theorem kun_28 : kunW gT_28 gUD_28 = true := by decide +kernel
theorem kun_29 : kunW gT_29 gUD_29 = true := by decide +kernel
theorem kun_30 : kunW gT_30 gUD_30 = true := by decide +kernel
theorem kun_31 : kunW gT_31 gUD_31 = true := by decide +kernel
theorem kun_32 : kunW gT_32 gUD_32 = true := by decide +kernel
theorem kun_33 : kunW gT_33 gUD_33 = true := by decide +kernel
theorem kun_34 : kunW gT_34 gUD_34 = true := by decide +kernel
theorem kun_35 : kunW gT_35 gUD_35 = true := by decide +kernel
theorem kun_36 : kunW gT_36 gUD_36 = true := by decide +kernel
theorem kun_37 : kunW gT_37 gUD_37 = true := by decide +kernel
theorem kun_38 : kunW gT_38 gUD_38 = true := by decide +kernel
theorem kun_39 : kunW gT_39 gUD_39 = true := by decide +kernel
theorem kun_40 : kunW gT_40 gUD_40 = true := by decide +kernel
theorem kun_41 : kunW gT_41 gUD_41 = true := by decide +kernel
theorem kun_42 : kunW gT_42 gUD_42 = true := by decide +kernel
theorem kun_43 : kunW gT_43 gUD_43 = true := by decide +kernel
theorem kun_44 : kunW gT_44 gUD_44 = true := by decide +kernel
theorem kun_45 : kunW gT_45 gUD_45 = true := by decide +kernel
theorem kun_46 : kunW gT_46 gUD_46 = true := by decide +kernel
theorem kun_47 : kunW gT_47 gUD_47 = true := by decide +kernel
theorem kun_48 : kunW gT_48 gUD_48 = true := by decide +kernel
theorem kuT_A : ∀ T ∈ gTc_A, ∃ D, kunT T.1 T.2.1 T.2.2.1 T.2.2.2.1 D = true := List.forall_mem_cons.mpr ⟨kunW_s kun_0, List.forall_mem_cons.mpr ⟨kunW_s kun_1, List.forall_mem_cons.mpr ⟨kunW_s kun_2, List.forall_mem_cons.mpr ⟨kunW_s kun_3, List.forall_mem_cons.mpr ⟨kunW_s kun_4, List.forall_mem_cons.mpr ⟨kunW_s kun_5, List.forall_mem_cons.mpr ⟨kunW_s kun_6, List.forall_mem_cons.mpr ⟨kunW_s kun_7, List.forall_mem_cons.mpr ⟨kunW_s kun_8, List.forall_mem_cons.mpr ⟨kunW_s kun_9, List.forall_mem_cons.mpr ⟨kunW_s kun_10, List.forall_mem_cons.mpr ⟨kunW_s kun_11, List.forall_mem_cons.mpr ⟨kunW_s kun_12, List.forall_mem_cons.mpr ⟨kunW_s kun_13, List.forall_mem_cons.mpr ⟨kunW_s kun_14, List.forall_mem_cons.mpr ⟨kunW_s kun_15, List.forall_mem_cons.mpr ⟨kunW_s kun_16, List.forall_mem_cons.mpr ⟨kunW_s kun_17, List.forall_mem_cons.mpr ⟨kunW_s kun_18, List.forall_mem_cons.mpr ⟨kunW_s kun_19, List.forall_mem_cons.mpr ⟨kunW_s kun_20, List.forall_mem_cons.mpr ⟨kunW_s kun_21, List.forall_mem_cons.mpr ⟨kunW_s kun_22, List.forall_mem_cons.mpr ⟨kunW_s kun_23, List.forall_mem_cons.mpr ⟨kunW_s kun_24, List.forall_mem_cons.mpr ⟨kunW_s kun_25, List.forall_mem_cons.mpr ⟨kunW_s kun_26, List.forall_mem_cons.mpr ⟨kunW_s kun_27, List.forall_mem_cons.mpr ⟨kunW_s kun_28, List.forall_mem_cons.mpr ⟨kunW_s kun_29, List.forall_mem_cons.mpr ⟨kunW_s kun_30, List.forall_mem_cons.mpr ⟨kunW_s kun_31, List.forall_mem_cons.mpr ⟨kunW_s kun_32, List.forall_mem_cons.mpr ⟨kunW_s kun_33, List.forall_mem_cons.mpr ⟨kunW_s kun_34, List.forall_mem_cons.mpr ⟨kunW_s kun_35, List.forall_mem_cons.mpr ⟨kunW_s kun_36, List.forall_mem_cons.mpr ⟨kunW_s kun_37, List.forall_mem_cons.mpr ⟨kunW_s kun_38, List.forall_mem_cons.mpr ⟨kunW_s kun_39, List.forall_mem_cons.mpr ⟨kunW_s kun_40, List.forall_mem_cons.mpr ⟨kunW_s kun_41, List.forall_mem_cons.mpr ⟨kunW_s kun_42, List.forall_mem_cons.mpr ⟨kunW_s kun_43, List.forall_mem_cons.mpr ⟨kunW_s kun_44, List.forall_mem_cons.mpr ⟨kunW_s kun_45, List.forall_mem_cons.mpr ⟨kunW_s kun_46, List.forall_mem_cons.mpr ⟨kunW_s kun_47, List.forall_mem_cons.mpr ⟨kunW_s kun_48, List.forall_mem_nil _⟩⟩⟩⟩⟩⟩⟩⟩⟩⟩⟩⟩⟩⟩⟩⟩⟩⟩⟩⟩⟩⟩⟩⟩⟩⟩⟩⟩⟩⟩⟩⟩⟩⟩⟩⟩⟩⟩⟩⟩⟩⟩⟩⟩⟩⟩⟩⟩⟩
