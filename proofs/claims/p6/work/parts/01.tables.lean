def lw_okq (q : MethodName × Nat) : Prop := (q.1.cls ≠ "java/lang/invoke/MethodHandle" ∧ q.1.cls ≠ "java/lang/invoke/VarHandle") ∧ Cond.instantiable q.1.cls q.2 ∈ tables_1 ∧ Cond.privateMethod q.1 ∈ tables_1 ∧ Cond.instanceMethod q.1 ∈ tables_1
theorem zu_1 {w : Cond} (h : w ∈ tables_1_1) : w ∈ tables_1 := by
  unfold tables_1
  exact List.mem_append_left _ h
theorem zu_2 {w : Cond} (h : w ∈ tables_1_2) : w ∈ tables_1 := by
  unfold tables_1
  exact List.mem_append_right _ (List.mem_append_left _ h)
theorem zu_3 {w : Cond} (h : w ∈ tables_1_3) : w ∈ tables_1 := by
  unfold tables_1
  exact List.mem_append_right _ (List.mem_append_right _ (List.mem_append_left _ h))
theorem zu_4 {w : Cond} (h : w ∈ tables_1_4) : w ∈ tables_1 := by
  unfold tables_1
  exact List.mem_append_right _ (List.mem_append_right _ (List.mem_append_right _ (List.mem_append_left _ h)))
theorem zu_5 {w : Cond} (h : w ∈ tables_1_5) : w ∈ tables_1 := by
  unfold tables_1
  exact List.mem_append_right _ (List.mem_append_right _ (List.mem_append_right _ (List.mem_append_right _ (List.mem_append_left _ h))))
theorem zu_6 {w : Cond} (h : w ∈ tables_1_6) : w ∈ tables_1 := by
  unfold tables_1
  exact List.mem_append_right _ (List.mem_append_right _ (List.mem_append_right _ (List.mem_append_right _ (List.mem_append_right _ (List.mem_append_left _ h)))))
theorem zu_7 {w : Cond} (h : w ∈ tables_1_7) : w ∈ tables_1 := by
  unfold tables_1
  exact List.mem_append_right _ (List.mem_append_right _ (List.mem_append_right _ (List.mem_append_right _ (List.mem_append_right _ (List.mem_append_right _ (List.mem_append_left _ h))))))
theorem zu_8 {w : Cond} (h : w ∈ tables_1_8) : w ∈ tables_1 := by
  unfold tables_1
  exact List.mem_append_right _ (List.mem_append_right _ (List.mem_append_right _ (List.mem_append_right _ (List.mem_append_right _ (List.mem_append_right _ (List.mem_append_right _ (List.mem_append_left _ h)))))))
theorem zu_9 {w : Cond} (h : w ∈ tables_1_9) : w ∈ tables_1 := by
  unfold tables_1
  exact List.mem_append_right _ (List.mem_append_right _ (List.mem_append_right _ (List.mem_append_right _ (List.mem_append_right _ (List.mem_append_right _ (List.mem_append_right _ (List.mem_append_right _ (h))))))))
theorem lwc_0 : (("TroupeSums" : String) ≠ "java/lang/invoke/MethodHandle" ∧ ("TroupeSums" : String) ≠ "java/lang/invoke/VarHandle") := by decide +kernel
theorem lwc_1 : (("TroupeSums$Calculator" : String) ≠ "java/lang/invoke/MethodHandle" ∧ ("TroupeSums$Calculator" : String) ≠ "java/lang/invoke/VarHandle") := by decide +kernel
theorem lwc_2 : (("TroupeSums$Group" : String) ≠ "java/lang/invoke/MethodHandle" ∧ ("TroupeSums$Group" : String) ≠ "java/lang/invoke/VarHandle") := by decide +kernel
theorem lwc_3 : (("TroupeSums$Reader" : String) ≠ "java/lang/invoke/MethodHandle" ∧ ("TroupeSums$Reader" : String) ≠ "java/lang/invoke/VarHandle") := by decide +kernel
theorem lwc_4 : (("TroupeSums$Sorts" : String) ≠ "java/lang/invoke/MethodHandle" ∧ ("TroupeSums$Sorts" : String) ≠ "java/lang/invoke/VarHandle") := by decide +kernel
theorem lwc_5 : (("TroupeSums$Sums" : String) ≠ "java/lang/invoke/MethodHandle" ∧ ("TroupeSums$Sums" : String) ≠ "java/lang/invoke/VarHandle") := by decide +kernel
theorem lwc_6 : (("TroupeSums$Tokens" : String) ≠ "java/lang/invoke/MethodHandle" ∧ ("TroupeSums$Tokens" : String) ≠ "java/lang/invoke/VarHandle") := by decide +kernel
theorem lwc_7 : (("TroupeSums$Units" : String) ≠ "java/lang/invoke/MethodHandle" ∧ ("TroupeSums$Units" : String) ≠ "java/lang/invoke/VarHandle") := by decide +kernel
theorem lwc_8 : (("TroupeSumsModel" : String) ≠ "java/lang/invoke/MethodHandle" ∧ ("TroupeSumsModel" : String) ≠ "java/lang/invoke/VarHandle") := by decide +kernel
theorem lw_p0 : lw_okq (⟨"TroupeSums$Group", "gather", "()Z"⟩, 8) := ⟨lwc_2, zu_1 (List.mem_of_getElem? (i := 100) rfl), zu_2 (List.mem_of_getElem? (i := 79) rfl), zu_2 (List.mem_of_getElem? (i := 80) rfl)⟩
theorem lw_p1 : lw_okq (⟨"TroupeSums$Group", "behind", "(II)I"⟩, 8) := ⟨lwc_2, zu_1 (List.mem_of_getElem? (i := 100) rfl), zu_2 (List.mem_of_getElem? (i := 94) rfl), zu_2 (List.mem_of_getElem? (i := 95) rfl)⟩
theorem lw_p2 : lw_okq (⟨"TroupeSums$Group", "indexOf", "(I)I"⟩, 8) := ⟨lwc_2, zu_1 (List.mem_of_getElem? (i := 100) rfl), zu_2 (List.mem_of_getElem? (i := 101) rfl), zu_2 (List.mem_of_getElem? (i := 102) rfl)⟩
theorem lw_p3 : lw_okq (⟨"TroupeSums$Sorts", "addSubgroup", "(I)V"⟩, 8) := ⟨lwc_4, zu_1 (List.mem_of_getElem? (i := 141) rfl), zu_2 (List.mem_of_getElem? (i := 131) rfl), zu_2 (List.mem_of_getElem? (i := 132) rfl)⟩
theorem lw_p4 : lw_okq (⟨"TroupeSums$Sorts", "indexOf", "(I)I"⟩, 8) := ⟨lwc_4, zu_1 (List.mem_of_getElem? (i := 141) rfl), zu_2 (List.mem_of_getElem? (i := 135) rfl), zu_2 (List.mem_of_getElem? (i := 136) rfl)⟩
theorem lw_p5 : lw_okq (⟨"TroupeSums$Sorts", "arrange", "()V"⟩, 8) := ⟨lwc_4, zu_1 (List.mem_of_getElem? (i := 141) rfl), zu_2 (List.mem_of_getElem? (i := 139) rfl), zu_2 (List.mem_of_getElem? (i := 140) rfl)⟩
theorem lw_p6 : lw_okq (⟨"TroupeSums$Sorts", "numberSorts", "()V"⟩, 8) := ⟨lwc_4, zu_1 (List.mem_of_getElem? (i := 141) rfl), zu_2 (List.mem_of_getElem? (i := 152) rfl), zu_2 (List.mem_of_getElem? (i := 153) rfl)⟩
theorem lw_p7 : lw_okq (⟨"TroupeSums$Sorts", "fillTable", "()V"⟩, 8) := ⟨lwc_4, zu_1 (List.mem_of_getElem? (i := 141) rfl), zu_2 (List.mem_of_getElem? (i := 164) rfl), zu_2 (List.mem_of_getElem? (i := 165) rfl)⟩
theorem lw_p8 : lw_okq (⟨"TroupeSums$Sorts", "countTurned", "(II)V"⟩, 8) := ⟨lwc_4, zu_1 (List.mem_of_getElem? (i := 141) rfl), zu_2 (List.mem_of_getElem? (i := 168) rfl), zu_2 (List.mem_of_getElem? (i := 169) rfl)⟩
theorem lw_p9 : lw_okq (⟨"TroupeSums$Tokens", "readWord", "()V"⟩, 6) := ⟨lwc_6, zu_1 (List.mem_of_getElem? (i := 28) rfl), zu_3 (List.mem_of_getElem? (i := 4) rfl), zu_3 (List.mem_of_getElem? (i := 5) rfl)⟩
theorem lw_p10 : lw_okq (⟨"TroupeSums$Tokens", "readNumber", "()V"⟩, 6) := ⟨lwc_6, zu_1 (List.mem_of_getElem? (i := 28) rfl), zu_3 (List.mem_of_getElem? (i := 11) rfl), zu_3 (List.mem_of_getElem? (i := 12) rfl)⟩
theorem lw_p11 : lw_okq (⟨"TroupeSums$Reader", "refuse", "(I)Z"⟩, 4) := ⟨lwc_3, zu_1 (List.mem_of_getElem? (i := 73) rfl), zu_3 (List.mem_of_getElem? (i := 83) rfl), zu_3 (List.mem_of_getElem? (i := 84) rfl)⟩
theorem lw_p12 : lw_okq (⟨"TroupeSums$Reader", "refuseAt", "(II)Z"⟩, 4) := ⟨lwc_3, zu_1 (List.mem_of_getElem? (i := 73) rfl), zu_3 (List.mem_of_getElem? (i := 87) rfl), zu_3 (List.mem_of_getElem? (i := 88) rfl)⟩
theorem lw_p13 : lw_okq (⟨"TroupeSums$Reader", "passSign", "(I)Z"⟩, 4) := ⟨lwc_3, zu_1 (List.mem_of_getElem? (i := 73) rfl), zu_3 (List.mem_of_getElem? (i := 97) rfl), zu_3 (List.mem_of_getElem? (i := 98) rfl)⟩
theorem lw_p14 : lw_okq (⟨"TroupeSums$Reader", "readMove", "(I)I"⟩, 4) := ⟨lwc_3, zu_1 (List.mem_of_getElem? (i := 73) rfl), zu_3 (List.mem_of_getElem? (i := 110) rfl), zu_3 (List.mem_of_getElem? (i := 111) rfl)⟩
theorem lw_p15 : lw_okq (⟨"TroupeSums$Reader", "readSum", "(LTroupeSums$Troupe;)Z"⟩, 4) := ⟨lwc_3, zu_1 (List.mem_of_getElem? (i := 73) rfl), zu_3 (List.mem_of_getElem? (i := 139) rfl), zu_3 (List.mem_of_getElem? (i := 140) rfl)⟩
def lw_privs_1 : List (MethodName × Nat) := [(⟨"TroupeSums$Group", "gather", "()Z"⟩, 8), (⟨"TroupeSums$Group", "behind", "(II)I"⟩, 8), (⟨"TroupeSums$Group", "indexOf", "(I)I"⟩, 8), (⟨"TroupeSums$Sorts", "addSubgroup", "(I)V"⟩, 8), (⟨"TroupeSums$Sorts", "indexOf", "(I)I"⟩, 8), (⟨"TroupeSums$Sorts", "arrange", "()V"⟩, 8), (⟨"TroupeSums$Sorts", "numberSorts", "()V"⟩, 8), (⟨"TroupeSums$Sorts", "fillTable", "()V"⟩, 8), (⟨"TroupeSums$Sorts", "countTurned", "(II)V"⟩, 8), (⟨"TroupeSums$Tokens", "readWord", "()V"⟩, 6), (⟨"TroupeSums$Tokens", "readNumber", "()V"⟩, 6), (⟨"TroupeSums$Reader", "refuse", "(I)Z"⟩, 4), (⟨"TroupeSums$Reader", "refuseAt", "(II)Z"⟩, 4), (⟨"TroupeSums$Reader", "passSign", "(I)Z"⟩, 4), (⟨"TroupeSums$Reader", "readMove", "(I)I"⟩, 4), (⟨"TroupeSums$Reader", "readSum", "(LTroupeSums$Troupe;)Z"⟩, 4)]
theorem lw_r1 : ∀ q ∈ lw_privs_1, lw_okq q := List.forall_mem_cons.mpr ⟨lw_p0, List.forall_mem_cons.mpr ⟨lw_p1, List.forall_mem_cons.mpr ⟨lw_p2, List.forall_mem_cons.mpr ⟨lw_p3, List.forall_mem_cons.mpr ⟨lw_p4, List.forall_mem_cons.mpr ⟨lw_p5, List.forall_mem_cons.mpr ⟨lw_p6, List.forall_mem_cons.mpr ⟨lw_p7, List.forall_mem_cons.mpr ⟨lw_p8, List.forall_mem_cons.mpr ⟨lw_p9, List.forall_mem_cons.mpr ⟨lw_p10, List.forall_mem_cons.mpr ⟨lw_p11, List.forall_mem_cons.mpr ⟨lw_p12, List.forall_mem_cons.mpr ⟨lw_p13, List.forall_mem_cons.mpr ⟨lw_p14, List.forall_mem_cons.mpr ⟨lw_p15, fun _ h => absurd h List.not_mem_nil⟩⟩⟩⟩⟩⟩⟩⟩⟩⟩⟩⟩⟩⟩⟩⟩
theorem lw_p16 : lw_okq (⟨"TroupeSums$Reader", "readAhead", "(LTroupeSums$Calculator;)Z"⟩, 4) := ⟨lwc_3, zu_1 (List.mem_of_getElem? (i := 73) rfl), zu_3 (List.mem_of_getElem? (i := 147) rfl), zu_3 (List.mem_of_getElem? (i := 148) rfl)⟩
theorem lw_p17 : lw_okq (⟨"TroupeSums$Reader", "countUnit", "(LTroupeSums$Calculator;)Z"⟩, 4) := ⟨lwc_3, zu_1 (List.mem_of_getElem? (i := 73) rfl), zu_3 (List.mem_of_getElem? (i := 151) rfl), zu_3 (List.mem_of_getElem? (i := 152) rfl)⟩
theorem lw_p18 : lw_okq (⟨"TroupeSums$Calculator", "pushSign", "(I)V"⟩, 7) := ⟨lwc_1, zu_1 (List.mem_of_getElem? (i := 238) rfl), zu_3 (List.mem_of_getElem? (i := 159) rfl), zu_3 (List.mem_of_getElem? (i := 160) rfl)⟩
theorem lw_p19 : lw_okq (⟨"TroupeSums$Reader", "readOperand", "(LTroupeSums$Troupe;)Z"⟩, 4) := ⟨lwc_3, zu_1 (List.mem_of_getElem? (i := 73) rfl), zu_3 (List.mem_of_getElem? (i := 164) rfl), zu_3 (List.mem_of_getElem? (i := 165) rfl)⟩
theorem lw_p20 : lw_okq (⟨"TroupeSums$Reader", "readNamed", "(LTroupeSums$Troupe;)Z"⟩, 4) := ⟨lwc_3, zu_1 (List.mem_of_getElem? (i := 73) rfl), zu_3 (List.mem_of_getElem? (i := 169) rfl), zu_3 (List.mem_of_getElem? (i := 170) rfl)⟩
theorem lw_p21 : lw_okq (⟨"TroupeSums$Calculator", "nextShelf", "()I"⟩, 7) := ⟨lwc_1, zu_1 (List.mem_of_getElem? (i := 238) rfl), zu_3 (List.mem_of_getElem? (i := 177) rfl), zu_3 (List.mem_of_getElem? (i := 178) rfl)⟩
theorem lw_p22 : lw_okq (⟨"TroupeSums$Calculator", "topShelf", "()I"⟩, 7) := ⟨lwc_1, zu_1 (List.mem_of_getElem? (i := 238) rfl), zu_3 (List.mem_of_getElem? (i := 181) rfl), zu_3 (List.mem_of_getElem? (i := 182) rfl)⟩
theorem lw_p23 : lw_okq (⟨"TroupeSums$Reader", "readBehind", "(LTroupeSums$Calculator;)Z"⟩, 4) := ⟨lwc_3, zu_1 (List.mem_of_getElem? (i := 73) rfl), zu_3 (List.mem_of_getElem? (i := 198) rfl), zu_3 (List.mem_of_getElem? (i := 199) rfl)⟩
theorem lw_p24 : lw_okq (⟨"TroupeSums$Calculator", "settle", "(Z)V"⟩, 7) := ⟨lwc_1, zu_1 (List.mem_of_getElem? (i := 238) rfl), zu_3 (List.mem_of_getElem? (i := 231) rfl), zu_3 (List.mem_of_getElem? (i := 232) rfl)⟩
theorem lw_p25 : lw_okq (⟨"TroupeSums$Calculator", "topSign", "()I"⟩, 7) := ⟨lwc_1, zu_1 (List.mem_of_getElem? (i := 238) rfl), zu_3 (List.mem_of_getElem? (i := 239) rfl), zu_4 (List.mem_of_getElem? (i := 0) rfl)⟩
theorem lw_p26 : lw_okq (⟨"TroupeSums$Sums", "putNumber", "(IIJ)V"⟩, 3) := ⟨lwc_5, zu_1 (List.mem_of_getElem? (i := 184) rfl), zu_4 (List.mem_of_getElem? (i := 8) rfl), zu_4 (List.mem_of_getElem? (i := 9) rfl)⟩
theorem lw_p27 : lw_okq (⟨"TroupeSums$Group", "commutingWith", "(II)I"⟩, 8) := ⟨lwc_2, zu_1 (List.mem_of_getElem? (i := 100) rfl), zu_4 (List.mem_of_getElem? (i := 56) rfl), zu_4 (List.mem_of_getElem? (i := 57) rfl)⟩
theorem lw_p28 : lw_okq (⟨"TroupeSums$Group", "placesReached", "(II)I"⟩, 8) := ⟨lwc_2, zu_1 (List.mem_of_getElem? (i := 100) rfl), zu_4 (List.mem_of_getElem? (i := 193) rfl), zu_4 (List.mem_of_getElem? (i := 194) rfl)⟩
theorem lw_p29 : lw_okq (⟨"TroupeSums", "peakPart", "(III)I"⟩, 4) := ⟨lwc_0, zu_1 (List.mem_of_getElem? (i := 20) rfl), zu_5 (List.mem_of_getElem? (i := 38) rfl), zu_5 (List.mem_of_getElem? (i := 39) rfl)⟩
theorem lw_p30 : lw_okq (⟨"TroupeSums$Units", "narrowAt", "(I)V"⟩, 5) := ⟨lwc_7, zu_1 (List.mem_of_getElem? (i := 214) rfl), zu_5 (List.mem_of_getElem? (i := 66) rfl), zu_5 (List.mem_of_getElem? (i := 67) rfl)⟩
theorem lw_p31 : lw_okq (⟨"TroupeSums$Units", "bitOf", "(I)I"⟩, 5) := ⟨lwc_7, zu_1 (List.mem_of_getElem? (i := 214) rfl), zu_5 (List.mem_of_getElem? (i := 75) rfl), zu_5 (List.mem_of_getElem? (i := 76) rfl)⟩
def lw_privs_2 : List (MethodName × Nat) := [(⟨"TroupeSums$Reader", "readAhead", "(LTroupeSums$Calculator;)Z"⟩, 4), (⟨"TroupeSums$Reader", "countUnit", "(LTroupeSums$Calculator;)Z"⟩, 4), (⟨"TroupeSums$Calculator", "pushSign", "(I)V"⟩, 7), (⟨"TroupeSums$Reader", "readOperand", "(LTroupeSums$Troupe;)Z"⟩, 4), (⟨"TroupeSums$Reader", "readNamed", "(LTroupeSums$Troupe;)Z"⟩, 4), (⟨"TroupeSums$Calculator", "nextShelf", "()I"⟩, 7), (⟨"TroupeSums$Calculator", "topShelf", "()I"⟩, 7), (⟨"TroupeSums$Reader", "readBehind", "(LTroupeSums$Calculator;)Z"⟩, 4), (⟨"TroupeSums$Calculator", "settle", "(Z)V"⟩, 7), (⟨"TroupeSums$Calculator", "topSign", "()I"⟩, 7), (⟨"TroupeSums$Sums", "putNumber", "(IIJ)V"⟩, 3), (⟨"TroupeSums$Group", "commutingWith", "(II)I"⟩, 8), (⟨"TroupeSums$Group", "placesReached", "(II)I"⟩, 8), (⟨"TroupeSums", "peakPart", "(III)I"⟩, 4), (⟨"TroupeSums$Units", "narrowAt", "(I)V"⟩, 5), (⟨"TroupeSums$Units", "bitOf", "(I)I"⟩, 5)]
theorem lw_r2 : ∀ q ∈ lw_privs_2, lw_okq q := List.forall_mem_cons.mpr ⟨lw_p16, List.forall_mem_cons.mpr ⟨lw_p17, List.forall_mem_cons.mpr ⟨lw_p18, List.forall_mem_cons.mpr ⟨lw_p19, List.forall_mem_cons.mpr ⟨lw_p20, List.forall_mem_cons.mpr ⟨lw_p21, List.forall_mem_cons.mpr ⟨lw_p22, List.forall_mem_cons.mpr ⟨lw_p23, List.forall_mem_cons.mpr ⟨lw_p24, List.forall_mem_cons.mpr ⟨lw_p25, List.forall_mem_cons.mpr ⟨lw_p26, List.forall_mem_cons.mpr ⟨lw_p27, List.forall_mem_cons.mpr ⟨lw_p28, List.forall_mem_cons.mpr ⟨lw_p29, List.forall_mem_cons.mpr ⟨lw_p30, List.forall_mem_cons.mpr ⟨lw_p31, fun _ h => absurd h List.not_mem_nil⟩⟩⟩⟩⟩⟩⟩⟩⟩⟩⟩⟩⟩⟩⟩⟩
theorem lw_p32 : lw_okq (⟨"TroupeSums$Units", "narrow", "(I)V"⟩, 5) := ⟨lwc_7, zu_1 (List.mem_of_getElem? (i := 214) rfl), zu_5 (List.mem_of_getElem? (i := 80) rfl), zu_5 (List.mem_of_getElem? (i := 81) rfl)⟩
theorem lw_p33 : lw_okq (⟨"TroupeSums$Units", "straighten", "()V"⟩, 5) := ⟨lwc_7, zu_1 (List.mem_of_getElem? (i := 214) rfl), zu_5 (List.mem_of_getElem? (i := 85) rfl), zu_5 (List.mem_of_getElem? (i := 86) rfl)⟩
theorem lw_p34 : lw_okq (⟨"TroupeSums$Group", "countSetsKept", "(II)I"⟩, 8) := ⟨lwc_2, zu_1 (List.mem_of_getElem? (i := 100) rfl), zu_5 (List.mem_of_getElem? (i := 191) rfl), zu_5 (List.mem_of_getElem? (i := 192) rfl)⟩
theorem lw_p35 : lw_okq (⟨"TroupeSums$Group", "isSetKept", "(II)Z"⟩, 8) := ⟨lwc_2, zu_1 (List.mem_of_getElem? (i := 100) rfl), zu_5 (List.mem_of_getElem? (i := 195) rfl), zu_5 (List.mem_of_getElem? (i := 196) rfl)⟩
theorem lw_p36 : lw_okq (⟨"TroupeSumsModel", "builds", "()V"⟩, 66) := ⟨lwc_8, zu_6 (List.mem_of_getElem? (i := 6) rfl), zu_6 (List.mem_of_getElem? (i := 13) rfl), zu_6 (List.mem_of_getElem? (i := 14) rfl)⟩
theorem lw_p37 : lw_okq (⟨"TroupeSumsModel", "buildsMembers", "()Z"⟩, 66) := ⟨lwc_8, zu_6 (List.mem_of_getElem? (i := 6) rfl), zu_6 (List.mem_of_getElem? (i := 17) rfl), zu_6 (List.mem_of_getElem? (i := 18) rfl)⟩
theorem lw_p38 : lw_okq (⟨"TroupeSumsModel", "indexOf", "()I"⟩, 66) := ⟨lwc_8, zu_6 (List.mem_of_getElem? (i := 6) rfl), zu_6 (List.mem_of_getElem? (i := 21) rfl), zu_6 (List.mem_of_getElem? (i := 22) rfl)⟩
theorem lw_p39 : lw_okq (⟨"TroupeSumsModel", "isBehind", "(II)Z"⟩, 66) := ⟨lwc_8, zu_6 (List.mem_of_getElem? (i := 6) rfl), zu_6 (List.mem_of_getElem? (i := 25) rfl), zu_6 (List.mem_of_getElem? (i := 26) rfl)⟩
theorem lw_p40 : lw_okq (⟨"TroupeSumsModel", "exchanges", "(II)V"⟩, 66) := ⟨lwc_8, zu_6 (List.mem_of_getElem? (i := 6) rfl), zu_6 (List.mem_of_getElem? (i := 29) rfl), zu_6 (List.mem_of_getElem? (i := 30) rfl)⟩
theorem lw_p41 : lw_okq (⟨"TroupeSumsModel", "closed", "(I)I"⟩, 66) := ⟨lwc_8, zu_6 (List.mem_of_getElem? (i := 6) rfl), zu_6 (List.mem_of_getElem? (i := 36) rfl), zu_6 (List.mem_of_getElem? (i := 37) rfl)⟩
theorem lw_p42 : lw_okq (⟨"TroupeSumsModel", "by", "(II)I"⟩, 66) := ⟨lwc_8, zu_6 (List.mem_of_getElem? (i := 6) rfl), zu_6 (List.mem_of_getElem? (i := 40) rfl), zu_6 (List.mem_of_getElem? (i := 41) rfl)⟩
theorem lw_p43 : lw_okq (⟨"TroupeSumsModel", "subIndex", "(I)I"⟩, 66) := ⟨lwc_8, zu_6 (List.mem_of_getElem? (i := 6) rfl), zu_6 (List.mem_of_getElem? (i := 44) rfl), zu_6 (List.mem_of_getElem? (i := 45) rfl)⟩
theorem lw_p44 : lw_okq (⟨"TroupeSumsModel", "leastTurned", "(I)I"⟩, 66) := ⟨lwc_8, zu_6 (List.mem_of_getElem? (i := 6) rfl), zu_6 (List.mem_of_getElem? (i := 48) rfl), zu_6 (List.mem_of_getElem? (i := 49) rfl)⟩
theorem lw_p45 : lw_okq (⟨"TroupeSumsModel", "turned", "(II)I"⟩, 66) := ⟨lwc_8, zu_6 (List.mem_of_getElem? (i := 6) rfl), zu_6 (List.mem_of_getElem? (i := 52) rfl), zu_6 (List.mem_of_getElem? (i := 53) rfl)⟩
theorem lw_p46 : lw_okq (⟨"TroupeSumsModel", "comesSort", "(I)V"⟩, 66) := ⟨lwc_8, zu_6 (List.mem_of_getElem? (i := 6) rfl), zu_6 (List.mem_of_getElem? (i := 56) rfl), zu_6 (List.mem_of_getElem? (i := 57) rfl)⟩
theorem lw_p47 : lw_okq (⟨"TroupeSumsModel", "sortOfFirst", "(I)I"⟩, 66) := ⟨lwc_8, zu_6 (List.mem_of_getElem? (i := 6) rfl), zu_6 (List.mem_of_getElem? (i := 63) rfl), zu_6 (List.mem_of_getElem? (i := 64) rfl)⟩
def lw_privs_3 : List (MethodName × Nat) := [(⟨"TroupeSums$Units", "narrow", "(I)V"⟩, 5), (⟨"TroupeSums$Units", "straighten", "()V"⟩, 5), (⟨"TroupeSums$Group", "countSetsKept", "(II)I"⟩, 8), (⟨"TroupeSums$Group", "isSetKept", "(II)Z"⟩, 8), (⟨"TroupeSumsModel", "builds", "()V"⟩, 66), (⟨"TroupeSumsModel", "buildsMembers", "()Z"⟩, 66), (⟨"TroupeSumsModel", "indexOf", "()I"⟩, 66), (⟨"TroupeSumsModel", "isBehind", "(II)Z"⟩, 66), (⟨"TroupeSumsModel", "exchanges", "(II)V"⟩, 66), (⟨"TroupeSumsModel", "closed", "(I)I"⟩, 66), (⟨"TroupeSumsModel", "by", "(II)I"⟩, 66), (⟨"TroupeSumsModel", "subIndex", "(I)I"⟩, 66), (⟨"TroupeSumsModel", "leastTurned", "(I)I"⟩, 66), (⟨"TroupeSumsModel", "turned", "(II)I"⟩, 66), (⟨"TroupeSumsModel", "comesSort", "(I)V"⟩, 66), (⟨"TroupeSumsModel", "sortOfFirst", "(I)I"⟩, 66)]
theorem lw_r3 : ∀ q ∈ lw_privs_3, lw_okq q := List.forall_mem_cons.mpr ⟨lw_p32, List.forall_mem_cons.mpr ⟨lw_p33, List.forall_mem_cons.mpr ⟨lw_p34, List.forall_mem_cons.mpr ⟨lw_p35, List.forall_mem_cons.mpr ⟨lw_p36, List.forall_mem_cons.mpr ⟨lw_p37, List.forall_mem_cons.mpr ⟨lw_p38, List.forall_mem_cons.mpr ⟨lw_p39, List.forall_mem_cons.mpr ⟨lw_p40, List.forall_mem_cons.mpr ⟨lw_p41, List.forall_mem_cons.mpr ⟨lw_p42, List.forall_mem_cons.mpr ⟨lw_p43, List.forall_mem_cons.mpr ⟨lw_p44, List.forall_mem_cons.mpr ⟨lw_p45, List.forall_mem_cons.mpr ⟨lw_p46, List.forall_mem_cons.mpr ⟨lw_p47, fun _ h => absurd h List.not_mem_nil⟩⟩⟩⟩⟩⟩⟩⟩⟩⟩⟩⟩⟩⟩⟩⟩
theorem lw_p48 : lw_okq (⟨"TroupeSumsModel", "leastOf", "(II)I"⟩, 66) := ⟨lwc_8, zu_6 (List.mem_of_getElem? (i := 6) rfl), zu_6 (List.mem_of_getElem? (i := 67) rfl), zu_6 (List.mem_of_getElem? (i := 68) rfl)⟩
theorem lw_p49 : lw_okq (⟨"TroupeSumsModel", "fixedOf", "(II)I"⟩, 66) := ⟨lwc_8, zu_6 (List.mem_of_getElem? (i := 6) rfl), zu_6 (List.mem_of_getElem? (i := 71) rfl), zu_6 (List.mem_of_getElem? (i := 72) rfl)⟩
theorem lw_p50 : lw_okq (⟨"TroupeSumsModel", "inForce", "()V"⟩, 66) := ⟨lwc_8, zu_6 (List.mem_of_getElem? (i := 6) rfl), zu_6 (List.mem_of_getElem? (i := 78) rfl), zu_6 (List.mem_of_getElem? (i := 79) rfl)⟩
theorem lw_p51 : lw_okq (⟨"TroupeSumsModel", "four", "(I)V"⟩, 66) := ⟨lwc_8, zu_6 (List.mem_of_getElem? (i := 6) rfl), zu_7 (List.mem_of_getElem? (i := 45) rfl), zu_7 (List.mem_of_getElem? (i := 46) rfl)⟩
theorem lw_p52 : lw_okq (⟨"TroupeSumsModel", "begins", "()V"⟩, 66) := ⟨lwc_8, zu_6 (List.mem_of_getElem? (i := 6) rfl), zu_7 (List.mem_of_getElem? (i := 60) rfl), zu_7 (List.mem_of_getElem? (i := 61) rfl)⟩
theorem lw_p53 : lw_okq (⟨"TroupeSumsModel", "goOn", "()V"⟩, 66) := ⟨lwc_8, zu_6 (List.mem_of_getElem? (i := 6) rfl), zu_7 (List.mem_of_getElem? (i := 64) rfl), zu_7 (List.mem_of_getElem? (i := 65) rfl)⟩
theorem lw_p54 : lw_okq (⟨"TroupeSumsModel", "here", "(I)I"⟩, 66) := ⟨lwc_8, zu_6 (List.mem_of_getElem? (i := 6) rfl), zu_7 (List.mem_of_getElem? (i := 68) rfl), zu_7 (List.mem_of_getElem? (i := 69) rfl)⟩
theorem lw_p55 : lw_okq (⟨"TroupeSumsModel", "reads", "()V"⟩, 66) := ⟨lwc_8, zu_6 (List.mem_of_getElem? (i := 6) rfl), zu_7 (List.mem_of_getElem? (i := 81) rfl), zu_7 (List.mem_of_getElem? (i := 82) rfl)⟩
theorem lw_p56 : lw_okq (⟨"TroupeSumsModel", "isWord", "(J)Z"⟩, 66) := ⟨lwc_8, zu_6 (List.mem_of_getElem? (i := 6) rfl), zu_7 (List.mem_of_getElem? (i := 86) rfl), zu_7 (List.mem_of_getElem? (i := 87) rfl)⟩
theorem lw_p57 : lw_okq (⟨"TroupeSumsModel", "wrong", "(I)V"⟩, 66) := ⟨lwc_8, zu_6 (List.mem_of_getElem? (i := 6) rfl), zu_7 (List.mem_of_getElem? (i := 90) rfl), zu_7 (List.mem_of_getElem? (i := 91) rfl)⟩
theorem lw_p58 : lw_okq (⟨"TroupeSumsModel", "wrongAt", "(II)V"⟩, 66) := ⟨lwc_8, zu_6 (List.mem_of_getElem? (i := 6) rfl), zu_7 (List.mem_of_getElem? (i := 94) rfl), zu_7 (List.mem_of_getElem? (i := 95) rfl)⟩
theorem lw_p59 : lw_okq (⟨"TroupeSumsModel", "isGood", "()Z"⟩, 66) := ⟨lwc_8, zu_6 (List.mem_of_getElem? (i := 6) rfl), zu_7 (List.mem_of_getElem? (i := 98) rfl), zu_7 (List.mem_of_getElem? (i := 99) rfl)⟩
theorem lw_p60 : lw_okq (⟨"TroupeSumsModel", "number", "(II)I"⟩, 66) := ⟨lwc_8, zu_6 (List.mem_of_getElem? (i := 6) rfl), zu_7 (List.mem_of_getElem? (i := 102) rfl), zu_7 (List.mem_of_getElem? (i := 103) rfl)⟩
theorem lw_p61 : lw_okq (⟨"TroupeSumsModel", "must", "(I)V"⟩, 66) := ⟨lwc_8, zu_6 (List.mem_of_getElem? (i := 6) rfl), zu_7 (List.mem_of_getElem? (i := 106) rfl), zu_7 (List.mem_of_getElem? (i := 107) rfl)⟩
theorem lw_p62 : lw_okq (⟨"TroupeSumsModel", "isSignHere", "(I)Z"⟩, 66) := ⟨lwc_8, zu_6 (List.mem_of_getElem? (i := 6) rfl), zu_7 (List.mem_of_getElem? (i := 110) rfl), zu_7 (List.mem_of_getElem? (i := 111) rfl)⟩
theorem lw_p63 : lw_okq (⟨"TroupeSumsModel", "moveLine", "()V"⟩, 66) := ⟨lwc_8, zu_6 (List.mem_of_getElem? (i := 6) rfl), zu_7 (List.mem_of_getElem? (i := 115) rfl), zu_7 (List.mem_of_getElem? (i := 116) rfl)⟩
def lw_privs_4 : List (MethodName × Nat) := [(⟨"TroupeSumsModel", "leastOf", "(II)I"⟩, 66), (⟨"TroupeSumsModel", "fixedOf", "(II)I"⟩, 66), (⟨"TroupeSumsModel", "inForce", "()V"⟩, 66), (⟨"TroupeSumsModel", "four", "(I)V"⟩, 66), (⟨"TroupeSumsModel", "begins", "()V"⟩, 66), (⟨"TroupeSumsModel", "goOn", "()V"⟩, 66), (⟨"TroupeSumsModel", "here", "(I)I"⟩, 66), (⟨"TroupeSumsModel", "reads", "()V"⟩, 66), (⟨"TroupeSumsModel", "isWord", "(J)Z"⟩, 66), (⟨"TroupeSumsModel", "wrong", "(I)V"⟩, 66), (⟨"TroupeSumsModel", "wrongAt", "(II)V"⟩, 66), (⟨"TroupeSumsModel", "isGood", "()Z"⟩, 66), (⟨"TroupeSumsModel", "number", "(II)I"⟩, 66), (⟨"TroupeSumsModel", "must", "(I)V"⟩, 66), (⟨"TroupeSumsModel", "isSignHere", "(I)Z"⟩, 66), (⟨"TroupeSumsModel", "moveLine", "()V"⟩, 66)]
theorem lw_r4 : ∀ q ∈ lw_privs_4, lw_okq q := List.forall_mem_cons.mpr ⟨lw_p48, List.forall_mem_cons.mpr ⟨lw_p49, List.forall_mem_cons.mpr ⟨lw_p50, List.forall_mem_cons.mpr ⟨lw_p51, List.forall_mem_cons.mpr ⟨lw_p52, List.forall_mem_cons.mpr ⟨lw_p53, List.forall_mem_cons.mpr ⟨lw_p54, List.forall_mem_cons.mpr ⟨lw_p55, List.forall_mem_cons.mpr ⟨lw_p56, List.forall_mem_cons.mpr ⟨lw_p57, List.forall_mem_cons.mpr ⟨lw_p58, List.forall_mem_cons.mpr ⟨lw_p59, List.forall_mem_cons.mpr ⟨lw_p60, List.forall_mem_cons.mpr ⟨lw_p61, List.forall_mem_cons.mpr ⟨lw_p62, List.forall_mem_cons.mpr ⟨lw_p63, fun _ h => absurd h List.not_mem_nil⟩⟩⟩⟩⟩⟩⟩⟩⟩⟩⟩⟩⟩⟩⟩⟩
theorem lw_p64 : lw_okq (⟨"TroupeSumsModel", "letLine", "()V"⟩, 66) := ⟨lwc_8, zu_6 (List.mem_of_getElem? (i := 6) rfl), zu_7 (List.mem_of_getElem? (i := 120) rfl), zu_7 (List.mem_of_getElem? (i := 121) rfl)⟩
theorem lw_p65 : lw_okq (⟨"TroupeSumsModel", "isName", "()Z"⟩, 66) := ⟨lwc_8, zu_6 (List.mem_of_getElem? (i := 6) rfl), zu_7 (List.mem_of_getElem? (i := 124) rfl), zu_7 (List.mem_of_getElem? (i := 125) rfl)⟩
theorem lw_p66 : lw_okq (⟨"TroupeSumsModel", "nameAt", "()I"⟩, 66) := ⟨lwc_8, zu_6 (List.mem_of_getElem? (i := 6) rfl), zu_7 (List.mem_of_getElem? (i := 129) rfl), zu_7 (List.mem_of_getElem? (i := 130) rfl)⟩
theorem lw_p67 : lw_okq (⟨"TroupeSumsModel", "formula", "()V"⟩, 66) := ⟨lwc_8, zu_6 (List.mem_of_getElem? (i := 6) rfl), zu_7 (List.mem_of_getElem? (i := 133) rfl), zu_7 (List.mem_of_getElem? (i := 134) rfl)⟩
theorem lw_p68 : lw_okq (⟨"TroupeSumsModel", "operand", "()Z"⟩, 66) := ⟨lwc_8, zu_6 (List.mem_of_getElem? (i := 6) rfl), zu_7 (List.mem_of_getElem? (i := 137) rfl), zu_7 (List.mem_of_getElem? (i := 138) rfl)⟩
theorem lw_p69 : lw_okq (⟨"TroupeSumsModel", "countsUnit", "()V"⟩, 66) := ⟨lwc_8, zu_6 (List.mem_of_getElem? (i := 6) rfl), zu_7 (List.mem_of_getElem? (i := 141) rfl), zu_7 (List.mem_of_getElem? (i := 142) rfl)⟩
theorem lw_p70 : lw_okq (⟨"TroupeSumsModel", "lays", "(IJ)V"⟩, 66) := ⟨lwc_8, zu_6 (List.mem_of_getElem? (i := 6) rfl), zu_7 (List.mem_of_getElem? (i := 145) rfl), zu_7 (List.mem_of_getElem? (i := 146) rfl)⟩
theorem lw_p71 : lw_okq (⟨"TroupeSumsModel", "looks", "()V"⟩, 66) := ⟨lwc_8, zu_6 (List.mem_of_getElem? (i := 6) rfl), zu_7 (List.mem_of_getElem? (i := 149) rfl), zu_7 (List.mem_of_getElem? (i := 150) rfl)⟩
theorem lw_p72 : lw_okq (⟨"TroupeSumsModel", "isFit", "([JI)Z"⟩, 66) := ⟨lwc_8, zu_6 (List.mem_of_getElem? (i := 6) rfl), zu_7 (List.mem_of_getElem? (i := 153) rfl), zu_7 (List.mem_of_getElem? (i := 154) rfl)⟩
theorem lw_p73 : lw_okq (⟨"TroupeSumsModel", "markAt", "([JII)J"⟩, 66) := ⟨lwc_8, zu_6 (List.mem_of_getElem? (i := 6) rfl), zu_7 (List.mem_of_getElem? (i := 159) rfl), zu_7 (List.mem_of_getElem? (i := 160) rfl)⟩
theorem lw_p74 : lw_okq (⟨"TroupeSumsModel", "closes", "()V"⟩, 66) := ⟨lwc_8, zu_6 (List.mem_of_getElem? (i := 6) rfl), zu_7 (List.mem_of_getElem? (i := 163) rfl), zu_7 (List.mem_of_getElem? (i := 164) rfl)⟩
theorem lw_p75 : lw_okq (⟨"TroupeSumsModel", "powers", "(I)V"⟩, 66) := ⟨lwc_8, zu_6 (List.mem_of_getElem? (i := 6) rfl), zu_7 (List.mem_of_getElem? (i := 167) rfl), zu_7 (List.mem_of_getElem? (i := 168) rfl)⟩
theorem lw_p76 : lw_okq (⟨"TroupeSumsModel", "marksOf", "(I[J)V"⟩, 66) := ⟨lwc_8, zu_6 (List.mem_of_getElem? (i := 6) rfl), zu_7 (List.mem_of_getElem? (i := 171) rfl), zu_7 (List.mem_of_getElem? (i := 172) rfl)⟩
theorem lw_p77 : lw_okq (⟨"TroupeSumsModel", "multiplies", "()V"⟩, 66) := ⟨lwc_8, zu_6 (List.mem_of_getElem? (i := 6) rfl), zu_7 (List.mem_of_getElem? (i := 175) rfl), zu_7 (List.mem_of_getElem? (i := 176) rfl)⟩
theorem lw_p78 : lw_okq (⟨"TroupeSumsModel", "numbers", "([J[JI)V"⟩, 66) := ⟨lwc_8, zu_6 (List.mem_of_getElem? (i := 6) rfl), zu_7 (List.mem_of_getElem? (i := 179) rfl), zu_7 (List.mem_of_getElem? (i := 180) rfl)⟩
theorem lw_p79 : lw_okq (⟨"TroupeSumsModel", "negates", "()V"⟩, 66) := ⟨lwc_8, zu_6 (List.mem_of_getElem? (i := 6) rfl), zu_7 (List.mem_of_getElem? (i := 183) rfl), zu_7 (List.mem_of_getElem? (i := 184) rfl)⟩
def lw_privs_5 : List (MethodName × Nat) := [(⟨"TroupeSumsModel", "letLine", "()V"⟩, 66), (⟨"TroupeSumsModel", "isName", "()Z"⟩, 66), (⟨"TroupeSumsModel", "nameAt", "()I"⟩, 66), (⟨"TroupeSumsModel", "formula", "()V"⟩, 66), (⟨"TroupeSumsModel", "operand", "()Z"⟩, 66), (⟨"TroupeSumsModel", "countsUnit", "()V"⟩, 66), (⟨"TroupeSumsModel", "lays", "(IJ)V"⟩, 66), (⟨"TroupeSumsModel", "looks", "()V"⟩, 66), (⟨"TroupeSumsModel", "isFit", "([JI)Z"⟩, 66), (⟨"TroupeSumsModel", "markAt", "([JII)J"⟩, 66), (⟨"TroupeSumsModel", "closes", "()V"⟩, 66), (⟨"TroupeSumsModel", "powers", "(I)V"⟩, 66), (⟨"TroupeSumsModel", "marksOf", "(I[J)V"⟩, 66), (⟨"TroupeSumsModel", "multiplies", "()V"⟩, 66), (⟨"TroupeSumsModel", "numbers", "([J[JI)V"⟩, 66), (⟨"TroupeSumsModel", "negates", "()V"⟩, 66)]
theorem lw_r5 : ∀ q ∈ lw_privs_5, lw_okq q := List.forall_mem_cons.mpr ⟨lw_p64, List.forall_mem_cons.mpr ⟨lw_p65, List.forall_mem_cons.mpr ⟨lw_p66, List.forall_mem_cons.mpr ⟨lw_p67, List.forall_mem_cons.mpr ⟨lw_p68, List.forall_mem_cons.mpr ⟨lw_p69, List.forall_mem_cons.mpr ⟨lw_p70, List.forall_mem_cons.mpr ⟨lw_p71, List.forall_mem_cons.mpr ⟨lw_p72, List.forall_mem_cons.mpr ⟨lw_p73, List.forall_mem_cons.mpr ⟨lw_p74, List.forall_mem_cons.mpr ⟨lw_p75, List.forall_mem_cons.mpr ⟨lw_p76, List.forall_mem_cons.mpr ⟨lw_p77, List.forall_mem_cons.mpr ⟨lw_p78, List.forall_mem_cons.mpr ⟨lw_p79, fun _ h => absurd h List.not_mem_nil⟩⟩⟩⟩⟩⟩⟩⟩⟩⟩⟩⟩⟩⟩⟩⟩
theorem lw_p80 : lw_okq (⟨"TroupeSumsModel", "goesOn", "()Z"⟩, 66) := ⟨lwc_8, zu_6 (List.mem_of_getElem? (i := 6) rfl), zu_7 (List.mem_of_getElem? (i := 187) rfl), zu_7 (List.mem_of_getElem? (i := 188) rfl)⟩
theorem lw_p81 : lw_okq (⟨"TroupeSumsModel", "waitsFor", "(I)V"⟩, 66) := ⟨lwc_8, zu_6 (List.mem_of_getElem? (i := 6) rfl), zu_7 (List.mem_of_getElem? (i := 191) rfl), zu_7 (List.mem_of_getElem? (i := 192) rfl)⟩
theorem lw_p82 : lw_okq (⟨"TroupeSumsModel", "works", "(I)V"⟩, 66) := ⟨lwc_8, zu_6 (List.mem_of_getElem? (i := 6) rfl), zu_7 (List.mem_of_getElem? (i := 195) rfl), zu_7 (List.mem_of_getElem? (i := 196) rfl)⟩
theorem lw_p83 : lw_okq (⟨"TroupeSumsModel", "timesTwo", "()V"⟩, 66) := ⟨lwc_8, zu_6 (List.mem_of_getElem? (i := 6) rfl), zu_7 (List.mem_of_getElem? (i := 199) rfl), zu_7 (List.mem_of_getElem? (i := 200) rfl)⟩
theorem lw_p84 : lw_okq (⟨"TroupeSumsModel", "adds", "(I)V"⟩, 66) := ⟨lwc_8, zu_6 (List.mem_of_getElem? (i := 6) rfl), zu_7 (List.mem_of_getElem? (i := 203) rfl), zu_7 (List.mem_of_getElem? (i := 204) rfl)⟩
theorem lw_p85 : lw_okq (⟨"TroupeSumsModel", "isOpen", "()Z"⟩, 66) := ⟨lwc_8, zu_6 (List.mem_of_getElem? (i := 6) rfl), zu_7 (List.mem_of_getElem? (i := 207) rfl), zu_7 (List.mem_of_getElem? (i := 208) rfl)⟩
theorem lw_p86 : lw_okq (⟨"TroupeSumsModel", "tells", "()V"⟩, 66) := ⟨lwc_8, zu_6 (List.mem_of_getElem? (i := 6) rfl), zu_7 (List.mem_of_getElem? (i := 211) rfl), zu_7 (List.mem_of_getElem? (i := 212) rfl)⟩
theorem lw_p87 : lw_okq (⟨"TroupeSumsModel", "goesBack", "()V"⟩, 66) := ⟨lwc_8, zu_6 (List.mem_of_getElem? (i := 6) rfl), zu_7 (List.mem_of_getElem? (i := 215) rfl), zu_7 (List.mem_of_getElem? (i := 216) rfl)⟩
theorem lw_p88 : lw_okq (⟨"TroupeSumsModel", "areAlike", "(I)Z"⟩, 66) := ⟨lwc_8, zu_6 (List.mem_of_getElem? (i := 6) rfl), zu_7 (List.mem_of_getElem? (i := 227) rfl), zu_7 (List.mem_of_getElem? (i := 228) rfl)⟩
theorem lw_p89 : lw_okq (⟨"TroupeSumsModel", "isMember", "(I)Z"⟩, 66) := ⟨lwc_8, zu_6 (List.mem_of_getElem? (i := 6) rfl), zu_7 (List.mem_of_getElem? (i := 235) rfl), zu_7 (List.mem_of_getElem? (i := 236) rfl)⟩
theorem lw_p90 : lw_okq (⟨"TroupeSumsModel", "timesOf", "(I)I"⟩, 66) := ⟨lwc_8, zu_6 (List.mem_of_getElem? (i := 6) rfl), zu_8 (List.mem_of_getElem? (i := 7) rfl), zu_8 (List.mem_of_getElem? (i := 8) rfl)⟩
theorem lw_p91 : lw_okq (⟨"TroupeSumsModel", "areMembers", "(I)Z"⟩, 66) := ⟨lwc_8, zu_6 (List.mem_of_getElem? (i := 6) rfl), zu_8 (List.mem_of_getElem? (i := 24) rfl), zu_8 (List.mem_of_getElem? (i := 25) rfl)⟩
theorem lw_p92 : lw_okq (⟨"TroupeSumsModel", "sortOfSet", "(I)I"⟩, 66) := ⟨lwc_8, zu_6 (List.mem_of_getElem? (i := 6) rfl), zu_8 (List.mem_of_getElem? (i := 32) rfl), zu_8 (List.mem_of_getElem? (i := 33) rfl)⟩
theorem lw_p93 : lw_okq (⟨"TroupeSumsModel", "isSort", "(I)Z"⟩, 66) := ⟨lwc_8, zu_6 (List.mem_of_getElem? (i := 6) rfl), zu_8 (List.mem_of_getElem? (i := 40) rfl), zu_8 (List.mem_of_getElem? (i := 41) rfl)⟩
theorem lw_p94 : lw_okq (⟨"TroupeSumsModel", "normOf", "(I)I"⟩, 66) := ⟨lwc_8, zu_6 (List.mem_of_getElem? (i := 6) rfl), zu_8 (List.mem_of_getElem? (i := 44) rfl), zu_8 (List.mem_of_getElem? (i := 45) rfl)⟩
theorem lw_p95 : lw_okq (⟨"TroupeSumsModel", "isOfOne", "(I)Z"⟩, 66) := ⟨lwc_8, zu_6 (List.mem_of_getElem? (i := 6) rfl), zu_8 (List.mem_of_getElem? (i := 48) rfl), zu_8 (List.mem_of_getElem? (i := 49) rfl)⟩
def lw_privs_6 : List (MethodName × Nat) := [(⟨"TroupeSumsModel", "goesOn", "()Z"⟩, 66), (⟨"TroupeSumsModel", "waitsFor", "(I)V"⟩, 66), (⟨"TroupeSumsModel", "works", "(I)V"⟩, 66), (⟨"TroupeSumsModel", "timesTwo", "()V"⟩, 66), (⟨"TroupeSumsModel", "adds", "(I)V"⟩, 66), (⟨"TroupeSumsModel", "isOpen", "()Z"⟩, 66), (⟨"TroupeSumsModel", "tells", "()V"⟩, 66), (⟨"TroupeSumsModel", "goesBack", "()V"⟩, 66), (⟨"TroupeSumsModel", "areAlike", "(I)Z"⟩, 66), (⟨"TroupeSumsModel", "isMember", "(I)Z"⟩, 66), (⟨"TroupeSumsModel", "timesOf", "(I)I"⟩, 66), (⟨"TroupeSumsModel", "areMembers", "(I)Z"⟩, 66), (⟨"TroupeSumsModel", "sortOfSet", "(I)I"⟩, 66), (⟨"TroupeSumsModel", "isSort", "(I)Z"⟩, 66), (⟨"TroupeSumsModel", "normOf", "(I)I"⟩, 66), (⟨"TroupeSumsModel", "isOfOne", "(I)Z"⟩, 66)]
theorem lw_r6 : ∀ q ∈ lw_privs_6, lw_okq q := List.forall_mem_cons.mpr ⟨lw_p80, List.forall_mem_cons.mpr ⟨lw_p81, List.forall_mem_cons.mpr ⟨lw_p82, List.forall_mem_cons.mpr ⟨lw_p83, List.forall_mem_cons.mpr ⟨lw_p84, List.forall_mem_cons.mpr ⟨lw_p85, List.forall_mem_cons.mpr ⟨lw_p86, List.forall_mem_cons.mpr ⟨lw_p87, List.forall_mem_cons.mpr ⟨lw_p88, List.forall_mem_cons.mpr ⟨lw_p89, List.forall_mem_cons.mpr ⟨lw_p90, List.forall_mem_cons.mpr ⟨lw_p91, List.forall_mem_cons.mpr ⟨lw_p92, List.forall_mem_cons.mpr ⟨lw_p93, List.forall_mem_cons.mpr ⟨lw_p94, List.forall_mem_cons.mpr ⟨lw_p95, fun _ h => absurd h List.not_mem_nil⟩⟩⟩⟩⟩⟩⟩⟩⟩⟩⟩⟩⟩⟩⟩⟩
theorem lw_p96 : lw_okq (⟨"TroupeSumsModel", "worksProduct", "(II)V"⟩, 66) := ⟨lwc_8, zu_6 (List.mem_of_getElem? (i := 6) rfl), zu_8 (List.mem_of_getElem? (i := 72) rfl), zu_8 (List.mem_of_getElem? (i := 73) rfl)⟩
theorem lw_p97 : lw_okq (⟨"TroupeSumsModel", "residueOf", "(II)I"⟩, 66) := ⟨lwc_8, zu_6 (List.mem_of_getElem? (i := 6) rfl), zu_8 (List.mem_of_getElem? (i := 87) rfl), zu_8 (List.mem_of_getElem? (i := 88) rfl)⟩
theorem lw_p98 : lw_okq (⟨"TroupeSumsModel", "blockOf", "(II)I"⟩, 66) := ⟨lwc_8, zu_6 (List.mem_of_getElem? (i := 6) rfl), zu_8 (List.mem_of_getElem? (i := 95) rfl), zu_8 (List.mem_of_getElem? (i := 96) rfl)⟩
theorem lw_p99 : lw_okq (⟨"TroupeSumsModel", "peaks", "(I)V"⟩, 66) := ⟨lwc_8, zu_6 (List.mem_of_getElem? (i := 6) rfl), zu_8 (List.mem_of_getElem? (i := 136) rfl), zu_8 (List.mem_of_getElem? (i := 137) rfl)⟩
theorem lw_p100 : lw_okq (⟨"TroupeSumsModel", "sumWith", "(JJ)V"⟩, 66) := ⟨lwc_8, zu_6 (List.mem_of_getElem? (i := 6) rfl), zu_8 (List.mem_of_getElem? (i := 140) rfl), zu_8 (List.mem_of_getElem? (i := 141) rfl)⟩
theorem lw_p101 : lw_okq (⟨"TroupeSumsModel", "laysUnits", "()V"⟩, 66) := ⟨lwc_8, zu_6 (List.mem_of_getElem? (i := 6) rfl), zu_8 (List.mem_of_getElem? (i := 155) rfl), zu_8 (List.mem_of_getElem? (i := 156) rfl)⟩
theorem lw_p102 : lw_okq (⟨"TroupeSumsModel", "laysMade", "(I)V"⟩, 66) := ⟨lwc_8, zu_6 (List.mem_of_getElem? (i := 6) rfl), zu_8 (List.mem_of_getElem? (i := 159) rfl), zu_8 (List.mem_of_getElem? (i := 160) rfl)⟩
theorem lw_p103 : lw_okq (⟨"TroupeSumsModel", "isUnitAt", "(II)Z"⟩, 66) := ⟨lwc_8, zu_6 (List.mem_of_getElem? (i := 6) rfl), zu_8 (List.mem_of_getElem? (i := 163) rfl), zu_8 (List.mem_of_getElem? (i := 164) rfl)⟩
theorem lw_p104 : lw_okq (⟨"TroupeSumsModel", "laysMarks", "()V"⟩, 66) := ⟨lwc_8, zu_6 (List.mem_of_getElem? (i := 6) rfl), zu_8 (List.mem_of_getElem? (i := 201) rfl), zu_8 (List.mem_of_getElem? (i := 202) rfl)⟩
theorem lw_p105 : lw_okq (⟨"TroupeSumsModel", "congruenceOf", "([JI)J"⟩, 66) := ⟨lwc_8, zu_6 (List.mem_of_getElem? (i := 6) rfl), zu_8 (List.mem_of_getElem? (i := 205) rfl), zu_8 (List.mem_of_getElem? (i := 206) rfl)⟩
theorem lw_p106 : lw_okq (⟨"TroupeSumsModel", "act", "()V"⟩, 66) := ⟨lwc_8, zu_6 (List.mem_of_getElem? (i := 6) rfl), zu_8 (List.mem_of_getElem? (i := 218) rfl), zu_8 (List.mem_of_getElem? (i := 219) rfl)⟩
theorem lw_p107 : lw_okq (⟨"TroupeSumsModel", "laysParts", "(I)V"⟩, 66) := ⟨lwc_8, zu_6 (List.mem_of_getElem? (i := 6) rfl), zu_8 (List.mem_of_getElem? (i := 229) rfl), zu_8 (List.mem_of_getElem? (i := 230) rfl)⟩
theorem lw_p108 : lw_okq (⟨"TroupeSumsModel", "fixedBy", "(II)J"⟩, 66) := ⟨lwc_8, zu_6 (List.mem_of_getElem? (i := 6) rfl), zu_8 (List.mem_of_getElem? (i := 233) rfl), zu_8 (List.mem_of_getElem? (i := 234) rfl)⟩
theorem lw_p109 : lw_okq (⟨"TroupeSumsModel", "setsOf", "(I)I"⟩, 66) := ⟨lwc_8, zu_6 (List.mem_of_getElem? (i := 6) rfl), zu_8 (List.mem_of_getElem? (i := 237) rfl), zu_8 (List.mem_of_getElem? (i := 238) rfl)⟩
theorem lw_p110 : lw_okq (⟨"TroupeSumsModel", "readsMarks", "(I)Z"⟩, 66) := ⟨lwc_8, zu_6 (List.mem_of_getElem? (i := 6) rfl), zu_9 (List.mem_of_getElem? (i := 5) rfl), zu_9 (List.mem_of_getElem? (i := 6) rfl)⟩
theorem lw_p111 : lw_okq (⟨"TroupeSumsModel", "isBlank", "(I)Z"⟩, 66) := ⟨lwc_8, zu_6 (List.mem_of_getElem? (i := 6) rfl), zu_9 (List.mem_of_getElem? (i := 9) rfl), zu_9 (List.mem_of_getElem? (i := 10) rfl)⟩
def lw_privs_7 : List (MethodName × Nat) := [(⟨"TroupeSumsModel", "worksProduct", "(II)V"⟩, 66), (⟨"TroupeSumsModel", "residueOf", "(II)I"⟩, 66), (⟨"TroupeSumsModel", "blockOf", "(II)I"⟩, 66), (⟨"TroupeSumsModel", "peaks", "(I)V"⟩, 66), (⟨"TroupeSumsModel", "sumWith", "(JJ)V"⟩, 66), (⟨"TroupeSumsModel", "laysUnits", "()V"⟩, 66), (⟨"TroupeSumsModel", "laysMade", "(I)V"⟩, 66), (⟨"TroupeSumsModel", "isUnitAt", "(II)Z"⟩, 66), (⟨"TroupeSumsModel", "laysMarks", "()V"⟩, 66), (⟨"TroupeSumsModel", "congruenceOf", "([JI)J"⟩, 66), (⟨"TroupeSumsModel", "act", "()V"⟩, 66), (⟨"TroupeSumsModel", "laysParts", "(I)V"⟩, 66), (⟨"TroupeSumsModel", "fixedBy", "(II)J"⟩, 66), (⟨"TroupeSumsModel", "setsOf", "(I)I"⟩, 66), (⟨"TroupeSumsModel", "readsMarks", "(I)Z"⟩, 66), (⟨"TroupeSumsModel", "isBlank", "(I)Z"⟩, 66)]
theorem lw_r7 : ∀ q ∈ lw_privs_7, lw_okq q := List.forall_mem_cons.mpr ⟨lw_p96, List.forall_mem_cons.mpr ⟨lw_p97, List.forall_mem_cons.mpr ⟨lw_p98, List.forall_mem_cons.mpr ⟨lw_p99, List.forall_mem_cons.mpr ⟨lw_p100, List.forall_mem_cons.mpr ⟨lw_p101, List.forall_mem_cons.mpr ⟨lw_p102, List.forall_mem_cons.mpr ⟨lw_p103, List.forall_mem_cons.mpr ⟨lw_p104, List.forall_mem_cons.mpr ⟨lw_p105, List.forall_mem_cons.mpr ⟨lw_p106, List.forall_mem_cons.mpr ⟨lw_p107, List.forall_mem_cons.mpr ⟨lw_p108, List.forall_mem_cons.mpr ⟨lw_p109, List.forall_mem_cons.mpr ⟨lw_p110, List.forall_mem_cons.mpr ⟨lw_p111, fun _ h => absurd h List.not_mem_nil⟩⟩⟩⟩⟩⟩⟩⟩⟩⟩⟩⟩⟩⟩⟩⟩
theorem lw_p112 : lw_okq (⟨"TroupeSumsModel", "readsNumber", "(I)Z"⟩, 66) := ⟨lwc_8, zu_6 (List.mem_of_getElem? (i := 6) rfl), zu_9 (List.mem_of_getElem? (i := 13) rfl), zu_9 (List.mem_of_getElem? (i := 14) rfl)⟩
def lw_privs_8 : List (MethodName × Nat) := [(⟨"TroupeSumsModel", "readsNumber", "(I)Z"⟩, 66)]
theorem lw_r8 : ∀ q ∈ lw_privs_8, lw_okq q := List.forall_mem_cons.mpr ⟨lw_p112, fun _ h => absurd h List.not_mem_nil⟩
def lw_privs : List (MethodName × Nat) := lw_privs_1 ++ (lw_privs_2 ++ (lw_privs_3 ++ (lw_privs_4 ++ (lw_privs_5 ++ (lw_privs_6 ++ (lw_privs_7 ++ (lw_privs_8)))))))
def lw_tbl : List Cond := k2_sels lw_privs ++ tables_1
theorem lw_privs_ok : ∀ q ∈ lw_privs, lw_okq q := by
  show ∀ q ∈ lw_privs_1 ++ (lw_privs_2 ++ (lw_privs_3 ++ (lw_privs_4 ++ (lw_privs_5 ++ (lw_privs_6 ++ (lw_privs_7 ++ (lw_privs_8))))))), lw_okq q
  exact List.forall_mem_append.mpr ⟨lw_r1, List.forall_mem_append.mpr ⟨lw_r2, List.forall_mem_append.mpr ⟨lw_r3, List.forall_mem_append.mpr ⟨lw_r4, List.forall_mem_append.mpr ⟨lw_r5, List.forall_mem_append.mpr ⟨lw_r6, List.forall_mem_append.mpr ⟨lw_r7, lw_r8⟩⟩⟩⟩⟩⟩⟩
theorem zt_1 {w : Cond} (h : w ∈ tables_1_1) : w ∈ lw_tbl := List.mem_append_right _ (show w ∈ tables_1 from (by unfold tables_1; exact List.mem_append_left _ h))
theorem zt_2 {w : Cond} (h : w ∈ tables_1_2) : w ∈ lw_tbl := List.mem_append_right _ (show w ∈ tables_1 from (by unfold tables_1; exact List.mem_append_right _ (List.mem_append_left _ h)))
theorem zt_3 {w : Cond} (h : w ∈ tables_1_3) : w ∈ lw_tbl := List.mem_append_right _ (show w ∈ tables_1 from (by unfold tables_1; exact List.mem_append_right _ (List.mem_append_right _ (List.mem_append_left _ h))))
theorem zt_4 {w : Cond} (h : w ∈ tables_1_4) : w ∈ lw_tbl := List.mem_append_right _ (show w ∈ tables_1 from (by unfold tables_1; exact List.mem_append_right _ (List.mem_append_right _ (List.mem_append_right _ (List.mem_append_left _ h)))))
theorem zt_5 {w : Cond} (h : w ∈ tables_1_5) : w ∈ lw_tbl := List.mem_append_right _ (show w ∈ tables_1 from (by unfold tables_1; exact List.mem_append_right _ (List.mem_append_right _ (List.mem_append_right _ (List.mem_append_right _ (List.mem_append_left _ h))))))
theorem zt_6 {w : Cond} (h : w ∈ tables_1_6) : w ∈ lw_tbl := List.mem_append_right _ (show w ∈ tables_1 from (by unfold tables_1; exact List.mem_append_right _ (List.mem_append_right _ (List.mem_append_right _ (List.mem_append_right _ (List.mem_append_right _ (List.mem_append_left _ h)))))))
theorem zt_7 {w : Cond} (h : w ∈ tables_1_7) : w ∈ lw_tbl := List.mem_append_right _ (show w ∈ tables_1 from (by unfold tables_1; exact List.mem_append_right _ (List.mem_append_right _ (List.mem_append_right _ (List.mem_append_right _ (List.mem_append_right _ (List.mem_append_right _ (List.mem_append_left _ h))))))))
theorem zt_8 {w : Cond} (h : w ∈ tables_1_8) : w ∈ lw_tbl := List.mem_append_right _ (show w ∈ tables_1 from (by unfold tables_1; exact List.mem_append_right _ (List.mem_append_right _ (List.mem_append_right _ (List.mem_append_right _ (List.mem_append_right _ (List.mem_append_right _ (List.mem_append_right _ (List.mem_append_left _ h)))))))))
theorem zt_9 {w : Cond} (h : w ∈ tables_1_9) : w ∈ lw_tbl := List.mem_append_right _ (show w ∈ tables_1 from (by unfold tables_1; exact List.mem_append_right _ (List.mem_append_right _ (List.mem_append_right _ (List.mem_append_right _ (List.mem_append_right _ (List.mem_append_right _ (List.mem_append_right _ (List.mem_append_right _ (h))))))))))
def zR : Nat → String
  | 0 => "TroupeSums"
  | 1 => "TroupeSums$Tokens"
  | 2 => "TroupeSums$IntRow"
  | 3 => "TroupeSums$Reader"
  | 4 => "TroupeSums$Troupe"
  | 5 => "TroupeSums$Group"
  | 6 => "TroupeSums$Sorts"
  | 7 => "TroupeSums$Sums"
  | 8 => "TroupeSums$LongRow"
  | 9 => "TroupeSums$Units"
  | 10 => "TroupeSums$Calculator"
  | 11 => "TroupeSumsModel"
  | 12 => "TroupeSumsLaw"
  | 13 => "java/lang/Math"
  | 14 => "java/lang/Integer"
  | 15 => "java/lang/String"
  | 16 => "java/lang/StringLatin1"
  | 17 => "jdk/internal/util/Preconditions"
  | 18 => "java/lang/StringUTF16"
  | _ => "java/lang/Object"
def zT : Nat → u_T
  | 0 => fun k => match k with
    | 0 => ("TroupeSums", "tape", "LTroupeSums$Tokens;", true)
    | 1 => ("TroupeSums", "reader", "LTroupeSums$Reader;", true)
    | 2 => ("TroupeSums", "now", "LTroupeSums$Troupe;", false)
    | _ => ("TroupeSums", "spare", "LTroupeSums$Troupe;", false)
  | 1 => fun k => match k with
    | 0 => ("TroupeSums$Tokens", "bytes", "LTroupeSums$IntRow;", true)
    | 1 => ("TroupeSums$Tokens", "length", "I", false)
    | 2 => ("TroupeSums$Tokens", "start", "I", false)
    | 3 => ("TroupeSums$Tokens", "next", "I", false)
    | 4 => ("TroupeSums$Tokens", "kind", "I", false)
    | _ => ("TroupeSums$Tokens", "value", "I", false)
  | 2 => fun k => match k with
    | _ => ("TroupeSums$IntRow", "cells", "[I", true)
  | 3 => fun k => match k with
    | 0 => ("TroupeSums$Reader", "tokens", "LTroupeSums$Tokens;", true)
    | 1 => ("TroupeSums$Reader", "unitCount", "I", false)
    | 2 => ("TroupeSums$Reader", "faultKind", "I", false)
    | _ => ("TroupeSums$Reader", "faultPlace", "I", false)
  | 4 => fun k => match k with
    | 0 => ("TroupeSums$Troupe", "group", "LTroupeSums$Group;", true)
    | 1 => ("TroupeSums$Troupe", "sorts", "LTroupeSums$Sorts;", true)
    | 2 => ("TroupeSums$Troupe", "sums", "LTroupeSums$Sums;", true)
    | 3 => ("TroupeSums$Troupe", "units", "LTroupeSums$Units;", true)
    | 4 => ("TroupeSums$Troupe", "calculator", "LTroupeSums$Calculator;", true)
    | 5 => ("TroupeSums$Troupe", "nameWords", "LTroupeSums$IntRow;", true)
    | 6 => ("TroupeSums$Troupe", "nameCount", "I", false)
    | 7 => ("TroupeSums$Troupe", "keptCount", "I", false)
    | _ => ("TroupeSums$Troupe", "keptNext", "I", false)
  | 5 => fun k => match k with
    | 0 => ("TroupeSums$Group", "moveCodes", "LTroupeSums$IntRow;", true)
    | 1 => ("TroupeSums$Group", "codes", "LTroupeSums$IntRow;", true)
    | 2 => ("TroupeSums$Group", "table", "LTroupeSums$IntRow;", true)
    | 3 => ("TroupeSums$Group", "undoers", "LTroupeSums$IntRow;", true)
    | 4 => ("TroupeSums$Group", "found", "LTroupeSums$IntRow;", true)
    | 5 => ("TroupeSums$Group", "places", "I", false)
    | 6 => ("TroupeSums$Group", "moveCount", "I", false)
    | _ => ("TroupeSums$Group", "size", "I", false)
  | 6 => fun k => match k with
    | 0 => ("TroupeSums$Sorts", "group", "LTroupeSums$Group;", true)
    | 1 => ("TroupeSums$Sorts", "subgroups", "LTroupeSums$IntRow;", true)
    | 2 => ("TroupeSums$Sorts", "sortsOfSubgroups", "LTroupeSums$IntRow;", true)
    | 3 => ("TroupeSums$Sorts", "moebiusRow", "LTroupeSums$IntRow;", true)
    | 4 => ("TroupeSums$Sorts", "firsts", "LTroupeSums$IntRow;", true)
    | 5 => ("TroupeSums$Sorts", "table", "LTroupeSums$IntRow;", true)
    | 6 => ("TroupeSums$Sorts", "subgroupCount", "I", false)
    | _ => ("TroupeSums$Sorts", "count", "I", false)
  | 7 => fun k => match k with
    | 0 => ("TroupeSums$Sums", "sorts", "LTroupeSums$Sorts;", true)
    | 1 => ("TroupeSums$Sums", "numbers", "LTroupeSums$LongRow;", true)
    | _ => ("TroupeSums$Sums", "marks", "LTroupeSums$LongRow;", true)
  | 8 => fun k => match k with
    | _ => ("TroupeSums$LongRow", "cells", "[J", true)
  | 9 => fun k => match k with
    | 0 => ("TroupeSums$Units", "sorts", "LTroupeSums$Sorts;", true)
    | 1 => ("TroupeSums$Units", "basis", "LTroupeSums$IntRow;", true)
    | 2 => ("TroupeSums$Units", "joined", "LTroupeSums$IntRow;", true)
    | 3 => ("TroupeSums$Units", "dimension", "I", false)
    | _ => ("TroupeSums$Units", "known", "Z", false)
  | 10 => fun k => match k with
    | 0 => ("TroupeSums$Calculator", "sums", "LTroupeSums$Sums;", true)
    | 1 => ("TroupeSums$Calculator", "signs", "LTroupeSums$IntRow;", true)
    | 2 => ("TroupeSums$Calculator", "signCount", "I", false)
    | 3 => ("TroupeSums$Calculator", "valueCount", "I", false)
    | 4 => ("TroupeSums$Calculator", "around", "I", false)
    | 5 => ("TroupeSums$Calculator", "brackets", "I", false)
    | _ => ("TroupeSums$Calculator", "tooLarge", "Z", false)
  | 11 => fun k => match k with
    | 0 => ("TroupeSumsModel", "tape", "[I", true)
    | 1 => ("TroupeSumsModel", "taped", "I", false)
    | 2 => ("TroupeSumsModel", "bytes", "I", false)
    | 3 => ("TroupeSumsModel", "at", "I", false)
    | 4 => ("TroupeSumsModel", "place", "I", false)
    | 5 => ("TroupeSumsModel", "sort", "I", false)
    | 6 => ("TroupeSumsModel", "value", "I", false)
    | 7 => ("TroupeSumsModel", "fault", "I", false)
    | 8 => ("TroupeSumsModel", "faultPlace", "I", false)
    | 9 => ("TroupeSumsModel", "toldFault", "I", false)
    | 10 => ("TroupeSumsModel", "toldPlace", "I", false)
    | 11 => ("TroupeSumsModel", "word", "J", false)
    | 12 => ("TroupeSumsModel", "rPlaces", "I", false)
    | 13 => ("TroupeSumsModel", "rMoves", "I", false)
    | 14 => ("TroupeSumsModel", "rNames", "I", false)
    | 15 => ("TroupeSumsModel", "rMove", "[I", true)
    | 16 => ("TroupeSumsModel", "places", "I", false)
    | 17 => ("TroupeSumsModel", "moves", "I", false)
    | 18 => ("TroupeSumsModel", "names", "I", false)
    | 19 => ("TroupeSumsModel", "move", "[I", true)
    | 20 => ("TroupeSumsModel", "order", "I", false)
    | 21 => ("TroupeSumsModel", "member", "[I", true)
    | 22 => ("TroupeSumsModel", "coming", "[I", true)
    | 23 => ("TroupeSumsModel", "product", "[I", true)
    | 24 => ("TroupeSumsModel", "undoes", "[I", true)
    | 25 => ("TroupeSumsModel", "subMany", "I", false)
    | 26 => ("TroupeSumsModel", "sortMany", "I", false)
    | 27 => ("TroupeSumsModel", "sub", "[I", true)
    | 28 => ("TroupeSumsModel", "subSort", "[I", true)
    | 29 => ("TroupeSumsModel", "first", "[I", true)
    | 30 => ("TroupeSumsModel", "subsOf", "[I", true)
    | 31 => ("TroupeSumsModel", "mark", "[I", true)
    | 32 => ("TroupeSumsModel", "cosetOf", "[I", true)
    | 33 => ("TroupeSumsModel", "pile", "[J", true)
    | 34 => ("TroupeSumsModel", "mulA", "[J", true)
    | 35 => ("TroupeSumsModel", "mulB", "[J", true)
    | 36 => ("TroupeSumsModel", "its", "[J", true)
    | 37 => ("TroupeSumsModel", "itsMarks", "[J", true)
    | 38 => ("TroupeSumsModel", "high", "I", false)
    | 39 => ("TroupeSumsModel", "isBig", "Z", false)
    | 40 => ("TroupeSumsModel", "waits", "[I", true)
    | 41 => ("TroupeSumsModel", "waiting", "I", false)
    | 42 => ("TroupeSumsModel", "deep", "I", false)
    | 43 => ("TroupeSumsModel", "units", "I", false)
    | 44 => ("TroupeSumsModel", "rName", "[J", true)
    | 45 => ("TroupeSumsModel", "rSum", "[J", true)
    | 46 => ("TroupeSumsModel", "name", "[J", true)
    | 47 => ("TroupeSumsModel", "sum", "[J", true)
    | 48 => ("TroupeSumsModel", "worked", "[J", true)
    | 49 => ("TroupeSumsModel", "moebius", "[I", true)
    | 50 => ("TroupeSumsModel", "above", "[J", true)
    | 51 => ("TroupeSumsModel", "below", "[J", true)
    | 52 => ("TroupeSumsModel", "sumAbove", "J", false)
    | 53 => ("TroupeSumsModel", "sumBelow", "J", false)
    | 54 => ("TroupeSumsModel", "madeOf", "[I", true)
    | 55 => ("TroupeSumsModel", "madeMany", "I", false)
    | 56 => ("TroupeSumsModel", "unitSet", "[I", true)
    | 57 => ("TroupeSumsModel", "unitMany", "I", false)
    | 58 => ("TroupeSumsModel", "areUnits", "Z", false)
    | 59 => ("TroupeSumsModel", "past", "[J", true)
    | 60 => ("TroupeSumsModel", "acts", "I", false)
    | 61 => ("TroupeSumsModel", "partOf", "[I", true)
    | 62 => ("TroupeSumsModel", "many", "[I", true)
    | 63 => ("TroupeSumsModel", "partMany", "I", false)
    | 64 => ("TroupeSumsModel", "numberAt", "I", false)
    | _ => ("TroupeSumsModel", "numberMany", "I", false)
  | _ => fun _ => ("", "", "", false)
def zN : Nat → Nat
  | 0 => 4
  | 1 => 6
  | 2 => 1
  | 3 => 4
  | 4 => 9
  | 5 => 8
  | 6 => 8
  | 7 => 3
  | 8 => 1
  | 9 => 5
  | 10 => 7
  | 11 => 66
  | _ => 0
def zY : Nat → Nat → FieldType
  | 0 => fun k => match k with
    | 0 => .object "TroupeSums$Tokens"
    | 1 => .object "TroupeSums$Reader"
    | 2 => .object "TroupeSums$Troupe"
    | _ => .object "TroupeSums$Troupe"
  | 1 => fun k => match k with
    | 0 => .object "TroupeSums$IntRow"
    | 1 => .int
    | 2 => .int
    | 3 => .int
    | 4 => .int
    | _ => .int
  | 2 => fun k => match k with
    | _ => .array .int
  | 3 => fun k => match k with
    | 0 => .object "TroupeSums$Tokens"
    | 1 => .int
    | 2 => .int
    | _ => .int
  | 4 => fun k => match k with
    | 0 => .object "TroupeSums$Group"
    | 1 => .object "TroupeSums$Sorts"
    | 2 => .object "TroupeSums$Sums"
    | 3 => .object "TroupeSums$Units"
    | 4 => .object "TroupeSums$Calculator"
    | 5 => .object "TroupeSums$IntRow"
    | 6 => .int
    | 7 => .int
    | _ => .int
  | 5 => fun k => match k with
    | 0 => .object "TroupeSums$IntRow"
    | 1 => .object "TroupeSums$IntRow"
    | 2 => .object "TroupeSums$IntRow"
    | 3 => .object "TroupeSums$IntRow"
    | 4 => .object "TroupeSums$IntRow"
    | 5 => .int
    | 6 => .int
    | _ => .int
  | 6 => fun k => match k with
    | 0 => .object "TroupeSums$Group"
    | 1 => .object "TroupeSums$IntRow"
    | 2 => .object "TroupeSums$IntRow"
    | 3 => .object "TroupeSums$IntRow"
    | 4 => .object "TroupeSums$IntRow"
    | 5 => .object "TroupeSums$IntRow"
    | 6 => .int
    | _ => .int
  | 7 => fun k => match k with
    | 0 => .object "TroupeSums$Sorts"
    | 1 => .object "TroupeSums$LongRow"
    | _ => .object "TroupeSums$LongRow"
  | 8 => fun k => match k with
    | _ => .array .long
  | 9 => fun k => match k with
    | 0 => .object "TroupeSums$Sorts"
    | 1 => .object "TroupeSums$IntRow"
    | 2 => .object "TroupeSums$IntRow"
    | 3 => .int
    | _ => .boolean
  | 10 => fun k => match k with
    | 0 => .object "TroupeSums$Sums"
    | 1 => .object "TroupeSums$IntRow"
    | 2 => .int
    | 3 => .int
    | 4 => .int
    | 5 => .int
    | _ => .boolean
  | 11 => fun k => match k with
    | 0 => .array .int
    | 1 => .int
    | 2 => .int
    | 3 => .int
    | 4 => .int
    | 5 => .int
    | 6 => .int
    | 7 => .int
    | 8 => .int
    | 9 => .int
    | 10 => .int
    | 11 => .long
    | 12 => .int
    | 13 => .int
    | 14 => .int
    | 15 => .array .int
    | 16 => .int
    | 17 => .int
    | 18 => .int
    | 19 => .array .int
    | 20 => .int
    | 21 => .array .int
    | 22 => .array .int
    | 23 => .array .int
    | 24 => .array .int
    | 25 => .int
    | 26 => .int
    | 27 => .array .int
    | 28 => .array .int
    | 29 => .array .int
    | 30 => .array .int
    | 31 => .array .int
    | 32 => .array .int
    | 33 => .array .long
    | 34 => .array .long
    | 35 => .array .long
    | 36 => .array .long
    | 37 => .array .long
    | 38 => .int
    | 39 => .boolean
    | 40 => .array .int
    | 41 => .int
    | 42 => .int
    | 43 => .int
    | 44 => .array .long
    | 45 => .array .long
    | 46 => .array .long
    | 47 => .array .long
    | 48 => .array .long
    | 49 => .array .int
    | 50 => .array .long
    | 51 => .array .long
    | 52 => .long
    | 53 => .long
    | 54 => .array .int
    | 55 => .int
    | 56 => .array .int
    | 57 => .int
    | 58 => .boolean
    | 59 => .array .long
    | 60 => .int
    | 61 => .array .int
    | 62 => .array .int
    | 63 => .int
    | 64 => .int
    | _ => .int
  | _ => fun _ => .int
def zG : Nat → Nat → Nat
  | 0 => fun k => match k with
    | 0 => 2
    | 1 => 2
    | 2 => 2
    | _ => 2
  | 1 => fun k => match k with
    | 0 => 2
    | 1 => 0
    | 2 => 0
    | 3 => 0
    | 4 => 0
    | _ => 0
  | 2 => fun k => match k with
    | _ => 2
  | 3 => fun k => match k with
    | 0 => 2
    | 1 => 0
    | 2 => 0
    | _ => 0
  | 4 => fun k => match k with
    | 0 => 2
    | 1 => 2
    | 2 => 2
    | 3 => 2
    | 4 => 2
    | 5 => 2
    | 6 => 0
    | 7 => 0
    | _ => 0
  | 5 => fun k => match k with
    | 0 => 2
    | 1 => 2
    | 2 => 2
    | 3 => 2
    | 4 => 2
    | 5 => 0
    | 6 => 0
    | _ => 0
  | 6 => fun k => match k with
    | 0 => 2
    | 1 => 2
    | 2 => 2
    | 3 => 2
    | 4 => 2
    | 5 => 2
    | 6 => 0
    | _ => 0
  | 7 => fun k => match k with
    | 0 => 2
    | 1 => 2
    | _ => 2
  | 8 => fun k => match k with
    | _ => 2
  | 9 => fun k => match k with
    | 0 => 2
    | 1 => 2
    | 2 => 2
    | 3 => 0
    | _ => 0
  | 10 => fun k => match k with
    | 0 => 2
    | 1 => 2
    | 2 => 0
    | 3 => 0
    | 4 => 0
    | 5 => 0
    | _ => 0
  | 11 => fun k => match k with
    | 0 => 2
    | 1 => 0
    | 2 => 0
    | 3 => 0
    | 4 => 0
    | 5 => 0
    | 6 => 0
    | 7 => 0
    | 8 => 0
    | 9 => 0
    | 10 => 0
    | 11 => 1
    | 12 => 0
    | 13 => 0
    | 14 => 0
    | 15 => 2
    | 16 => 0
    | 17 => 0
    | 18 => 0
    | 19 => 2
    | 20 => 0
    | 21 => 2
    | 22 => 2
    | 23 => 2
    | 24 => 2
    | 25 => 0
    | 26 => 0
    | 27 => 2
    | 28 => 2
    | 29 => 2
    | 30 => 2
    | 31 => 2
    | 32 => 2
    | 33 => 2
    | 34 => 2
    | 35 => 2
    | 36 => 2
    | 37 => 2
    | 38 => 0
    | 39 => 0
    | 40 => 2
    | 41 => 0
    | 42 => 0
    | 43 => 0
    | 44 => 2
    | 45 => 2
    | 46 => 2
    | 47 => 2
    | 48 => 2
    | 49 => 2
    | 50 => 2
    | 51 => 2
    | 52 => 1
    | 53 => 1
    | 54 => 2
    | 55 => 0
    | 56 => 2
    | 57 => 0
    | 58 => 0
    | 59 => 2
    | 60 => 0
    | 61 => 2
    | 62 => 2
    | 63 => 0
    | 64 => 0
    | _ => 0
  | _ => fun _ => 0
def zcl : List vw_C := [(zR 0, zT 0, zN 0), (zR 1, zT 1, zN 1), (zR 2, zT 2, zN 2), (zR 3, zT 3, zN 3), (zR 4, zT 4, zN 4), (zR 5, zT 5, zN 5), (zR 6, zT 6, zN 6), (zR 7, zT 7, zN 7), (zR 8, zT 8, zN 8), (zR 9, zT 9, zN 9), (zR 10, zT 10, zN 10), (zR 11, zT 11, zN 11)]
theorem z_cl : ∀ ci, ci < 12 → zcl[ci]? = some (zR ci, zT ci, zN ci) := by
  intro ci h
  match ci, h with
  | 0, _ => rfl
  | 1, _ => rfl
  | 2, _ => rfl
  | 3, _ => rfl
  | 4, _ => rfl
  | 5, _ => rfl
  | 6, _ => rfl
  | 7, _ => rfl
  | 8, _ => rfl
  | 9, _ => rfl
  | 10, _ => rfl
  | 11, _ => rfl
  | n + 12, h => exact absurd h (by omega)
def z_okw (w : Cond) : Bool := (w.onTables && w.keeps) || (match w with | .arrayClass _ => true | _ => false)
def z_tbl : List Cond := lw_tbl.filter z_okw
def z_isN (w : Cond) : Bool := match w with | .fieldLinkNest .. => true | .methodLinkNest .. => true | _ => false
def z_nst : List Cond := lw_tbl.filter z_isN
theorem z_memN {w : Cond} (h : w ∈ lw_tbl) (k : z_isN w = true) : w ∈ z_nst := List.mem_filter.mpr ⟨h, k⟩
theorem z_mem {w : Cond} (h : w ∈ lw_tbl) (k : z_okw w = true) : w ∈ z_tbl := List.mem_filter.mpr ⟨h, k⟩
theorem z_okw_of {w : Cond} (h : z_okw w = true) : (w.onTables && w.keeps) = true ∨ ∃ ty, w = .arrayClass ty := by
  unfold z_okw at h
  rcases Bool.or_eq_true_iff.mp h with h | h
  · exact Or.inl h
  · right
    split at h
    · exact ⟨_, rfl⟩
    · cases h
theorem z_good : GoodIn z_tbl z_tbl := fun w hw => ⟨hw, z_okw_of (List.mem_filter.mp hw).2⟩
theorem z_in_0 : ∀ w ∈ u_ws (zR 0) (zT 0) (zN 0), w ∈ z_tbl := by
  intro w hw
  obtain ⟨k, hk, rfl⟩ := List.mem_map.mp hw
  have hk : k < 4 := List.mem_range.mp hk
  match k, hk with
  | 0, _ => exact z_mem (zt_2 (List.mem_of_getElem? (i := 194) rfl)) rfl
  | 1, _ => exact z_mem (zt_2 (List.mem_of_getElem? (i := 196) rfl)) rfl
  | 2, _ => exact z_mem (zt_2 (List.mem_of_getElem? (i := 198) rfl)) rfl
  | 3, _ => exact z_mem (zt_2 (List.mem_of_getElem? (i := 200) rfl)) rfl
  | n + 4, h => exact absurd h (by omega)
theorem z_in_1 : ∀ w ∈ u_ws (zR 1) (zT 1) (zN 1), w ∈ z_tbl := by
  intro w hw
  obtain ⟨k, hk, rfl⟩ := List.mem_map.mp hw
  have hk : k < 6 := List.mem_range.mp hk
  match k, hk with
  | 0, _ => exact z_mem (zt_1 (List.mem_of_getElem? (i := 59) rfl)) rfl
  | 1, _ => exact z_mem (zt_1 (List.mem_of_getElem? (i := 61) rfl)) rfl
  | 2, _ => exact z_mem (zt_1 (List.mem_of_getElem? (i := 63) rfl)) rfl
  | 3, _ => exact z_mem (zt_1 (List.mem_of_getElem? (i := 65) rfl)) rfl
  | 4, _ => exact z_mem (zt_1 (List.mem_of_getElem? (i := 67) rfl)) rfl
  | 5, _ => exact z_mem (zt_1 (List.mem_of_getElem? (i := 69) rfl)) rfl
  | n + 6, h => exact absurd h (by omega)
theorem z_in_2 : ∀ w ∈ u_ws (zR 2) (zT 2) (zN 2), w ∈ z_tbl := by
  intro w hw
  obtain ⟨k, hk, rfl⟩ := List.mem_map.mp hw
  have hk : k < 1 := List.mem_range.mp hk
  match k, hk with
  | 0, _ => exact z_mem (zt_1 (List.mem_of_getElem? (i := 43) rfl)) rfl
  | n + 1, h => exact absurd h (by omega)
theorem z_in_3 : ∀ w ∈ u_ws (zR 3) (zT 3) (zN 3), w ∈ z_tbl := by
  intro w hw
  obtain ⟨k, hk, rfl⟩ := List.mem_map.mp hw
  have hk : k < 4 := List.mem_range.mp hk
  match k, hk with
  | 0, _ => exact z_mem (zt_1 (List.mem_of_getElem? (i := 84) rfl)) rfl
  | 1, _ => exact z_mem (zt_1 (List.mem_of_getElem? (i := 86) rfl)) rfl
  | 2, _ => exact z_mem (zt_1 (List.mem_of_getElem? (i := 88) rfl)) rfl
  | 3, _ => exact z_mem (zt_1 (List.mem_of_getElem? (i := 90) rfl)) rfl
  | n + 4, h => exact absurd h (by omega)
theorem z_in_4 : ∀ w ∈ u_ws (zR 4) (zT 4) (zN 4), w ∈ z_tbl := by
  intro w hw
  obtain ⟨k, hk, rfl⟩ := List.mem_map.mp hw
  have hk : k < 9 := List.mem_range.mp hk
  match k, hk with
  | 0, _ => exact z_mem (zt_2 (List.mem_of_getElem? (i := 51) rfl)) rfl
  | 1, _ => exact z_mem (zt_2 (List.mem_of_getElem? (i := 53) rfl)) rfl
  | 2, _ => exact z_mem (zt_2 (List.mem_of_getElem? (i := 55) rfl)) rfl
  | 3, _ => exact z_mem (zt_2 (List.mem_of_getElem? (i := 57) rfl)) rfl
  | 4, _ => exact z_mem (zt_2 (List.mem_of_getElem? (i := 59) rfl)) rfl
  | 5, _ => exact z_mem (zt_2 (List.mem_of_getElem? (i := 61) rfl)) rfl
  | 6, _ => exact z_mem (zt_2 (List.mem_of_getElem? (i := 63) rfl)) rfl
  | 7, _ => exact z_mem (zt_2 (List.mem_of_getElem? (i := 65) rfl)) rfl
  | 8, _ => exact z_mem (zt_2 (List.mem_of_getElem? (i := 67) rfl)) rfl
  | n + 9, h => exact absurd h (by omega)
theorem z_in_5 : ∀ w ∈ u_ws (zR 5) (zT 5) (zN 5), w ∈ z_tbl := by
  intro w hw
  obtain ⟨k, hk, rfl⟩ := List.mem_map.mp hw
  have hk : k < 8 := List.mem_range.mp hk
  match k, hk with
  | 0, _ => exact z_mem (zt_1 (List.mem_of_getElem? (i := 123) rfl)) rfl
  | 1, _ => exact z_mem (zt_1 (List.mem_of_getElem? (i := 125) rfl)) rfl
  | 2, _ => exact z_mem (zt_1 (List.mem_of_getElem? (i := 127) rfl)) rfl
  | 3, _ => exact z_mem (zt_1 (List.mem_of_getElem? (i := 129) rfl)) rfl
  | 4, _ => exact z_mem (zt_1 (List.mem_of_getElem? (i := 131) rfl)) rfl
  | 5, _ => exact z_mem (zt_1 (List.mem_of_getElem? (i := 133) rfl)) rfl
  | 6, _ => exact z_mem (zt_1 (List.mem_of_getElem? (i := 135) rfl)) rfl
  | 7, _ => exact z_mem (zt_1 (List.mem_of_getElem? (i := 137) rfl)) rfl
  | n + 8, h => exact absurd h (by omega)
theorem z_in_6 : ∀ w ∈ u_ws (zR 6) (zT 6) (zN 6), w ∈ z_tbl := by
  intro w hw
  obtain ⟨k, hk, rfl⟩ := List.mem_map.mp hw
  have hk : k < 8 := List.mem_range.mp hk
  match k, hk with
  | 0, _ => exact z_mem (zt_1 (List.mem_of_getElem? (i := 166) rfl)) rfl
  | 1, _ => exact z_mem (zt_1 (List.mem_of_getElem? (i := 168) rfl)) rfl
  | 2, _ => exact z_mem (zt_1 (List.mem_of_getElem? (i := 170) rfl)) rfl
  | 3, _ => exact z_mem (zt_1 (List.mem_of_getElem? (i := 172) rfl)) rfl
  | 4, _ => exact z_mem (zt_1 (List.mem_of_getElem? (i := 174) rfl)) rfl
  | 5, _ => exact z_mem (zt_1 (List.mem_of_getElem? (i := 176) rfl)) rfl
  | 6, _ => exact z_mem (zt_1 (List.mem_of_getElem? (i := 178) rfl)) rfl
  | 7, _ => exact z_mem (zt_1 (List.mem_of_getElem? (i := 180) rfl)) rfl
  | n + 8, h => exact absurd h (by omega)
theorem z_in_7 : ∀ w ∈ u_ws (zR 7) (zT 7) (zN 7), w ∈ z_tbl := by
  intro w hw
  obtain ⟨k, hk, rfl⟩ := List.mem_map.mp hw
  have hk : k < 3 := List.mem_range.mp hk
  match k, hk with
  | 0, _ => exact z_mem (zt_1 (List.mem_of_getElem? (i := 206) rfl)) rfl
  | 1, _ => exact z_mem (zt_1 (List.mem_of_getElem? (i := 208) rfl)) rfl
  | 2, _ => exact z_mem (zt_1 (List.mem_of_getElem? (i := 210) rfl)) rfl
  | n + 3, h => exact absurd h (by omega)
theorem z_in_8 : ∀ w ∈ u_ws (zR 8) (zT 8) (zN 8), w ∈ z_tbl := by
  intro w hw
  obtain ⟨k, hk, rfl⟩ := List.mem_map.mp hw
  have hk : k < 1 := List.mem_range.mp hk
  match k, hk with
  | 0, _ => exact z_mem (zt_1 (List.mem_of_getElem? (i := 197) rfl)) rfl
  | n + 1, h => exact absurd h (by omega)
theorem z_in_9 : ∀ w ∈ u_ws (zR 9) (zT 9) (zN 9), w ∈ z_tbl := by
  intro w hw
  obtain ⟨k, hk, rfl⟩ := List.mem_map.mp hw
  have hk : k < 5 := List.mem_range.mp hk
  match k, hk with
  | 0, _ => exact z_mem (zt_1 (List.mem_of_getElem? (i := 226) rfl)) rfl
  | 1, _ => exact z_mem (zt_1 (List.mem_of_getElem? (i := 228) rfl)) rfl
  | 2, _ => exact z_mem (zt_1 (List.mem_of_getElem? (i := 230) rfl)) rfl
  | 3, _ => exact z_mem (zt_1 (List.mem_of_getElem? (i := 232) rfl)) rfl
  | 4, _ => exact z_mem (zt_1 (List.mem_of_getElem? (i := 234) rfl)) rfl
  | n + 5, h => exact absurd h (by omega)
theorem z_in_10 : ∀ w ∈ u_ws (zR 10) (zT 10) (zN 10), w ∈ z_tbl := by
  intro w hw
  obtain ⟨k, hk, rfl⟩ := List.mem_map.mp hw
  have hk : k < 7 := List.mem_range.mp hk
  match k, hk with
  | 0, _ => exact z_mem (zt_2 (List.mem_of_getElem? (i := 15) rfl)) rfl
  | 1, _ => exact z_mem (zt_2 (List.mem_of_getElem? (i := 17) rfl)) rfl
  | 2, _ => exact z_mem (zt_2 (List.mem_of_getElem? (i := 19) rfl)) rfl
  | 3, _ => exact z_mem (zt_2 (List.mem_of_getElem? (i := 21) rfl)) rfl
  | 4, _ => exact z_mem (zt_2 (List.mem_of_getElem? (i := 23) rfl)) rfl
  | 5, _ => exact z_mem (zt_2 (List.mem_of_getElem? (i := 25) rfl)) rfl
  | 6, _ => exact z_mem (zt_2 (List.mem_of_getElem? (i := 27) rfl)) rfl
  | n + 7, h => exact absurd h (by omega)
theorem z_in_11 : ∀ w ∈ u_ws (zR 11) (zT 11) (zN 11), w ∈ z_tbl := by
  intro w hw
  obtain ⟨k, hk, rfl⟩ := List.mem_map.mp hw
  have hk : k < 66 := List.mem_range.mp hk
  match k, hk with
  | 0, _ => exact z_mem (zt_6 (List.mem_of_getElem? (i := 147) rfl)) rfl
  | 1, _ => exact z_mem (zt_6 (List.mem_of_getElem? (i := 149) rfl)) rfl
  | 2, _ => exact z_mem (zt_6 (List.mem_of_getElem? (i := 151) rfl)) rfl
  | 3, _ => exact z_mem (zt_6 (List.mem_of_getElem? (i := 153) rfl)) rfl
  | 4, _ => exact z_mem (zt_6 (List.mem_of_getElem? (i := 155) rfl)) rfl
  | 5, _ => exact z_mem (zt_6 (List.mem_of_getElem? (i := 157) rfl)) rfl
  | 6, _ => exact z_mem (zt_6 (List.mem_of_getElem? (i := 159) rfl)) rfl
  | 7, _ => exact z_mem (zt_6 (List.mem_of_getElem? (i := 161) rfl)) rfl
  | 8, _ => exact z_mem (zt_6 (List.mem_of_getElem? (i := 163) rfl)) rfl
  | 9, _ => exact z_mem (zt_6 (List.mem_of_getElem? (i := 165) rfl)) rfl
  | 10, _ => exact z_mem (zt_6 (List.mem_of_getElem? (i := 167) rfl)) rfl
  | 11, _ => exact z_mem (zt_6 (List.mem_of_getElem? (i := 169) rfl)) rfl
  | 12, _ => exact z_mem (zt_6 (List.mem_of_getElem? (i := 171) rfl)) rfl
  | 13, _ => exact z_mem (zt_6 (List.mem_of_getElem? (i := 173) rfl)) rfl
  | 14, _ => exact z_mem (zt_6 (List.mem_of_getElem? (i := 175) rfl)) rfl
  | 15, _ => exact z_mem (zt_6 (List.mem_of_getElem? (i := 177) rfl)) rfl
  | 16, _ => exact z_mem (zt_6 (List.mem_of_getElem? (i := 179) rfl)) rfl
  | 17, _ => exact z_mem (zt_6 (List.mem_of_getElem? (i := 181) rfl)) rfl
  | 18, _ => exact z_mem (zt_6 (List.mem_of_getElem? (i := 183) rfl)) rfl
  | 19, _ => exact z_mem (zt_6 (List.mem_of_getElem? (i := 185) rfl)) rfl
  | 20, _ => exact z_mem (zt_6 (List.mem_of_getElem? (i := 187) rfl)) rfl
  | 21, _ => exact z_mem (zt_6 (List.mem_of_getElem? (i := 189) rfl)) rfl
  | 22, _ => exact z_mem (zt_6 (List.mem_of_getElem? (i := 191) rfl)) rfl
  | 23, _ => exact z_mem (zt_6 (List.mem_of_getElem? (i := 193) rfl)) rfl
  | 24, _ => exact z_mem (zt_6 (List.mem_of_getElem? (i := 195) rfl)) rfl
  | 25, _ => exact z_mem (zt_6 (List.mem_of_getElem? (i := 197) rfl)) rfl
  | 26, _ => exact z_mem (zt_6 (List.mem_of_getElem? (i := 199) rfl)) rfl
  | 27, _ => exact z_mem (zt_6 (List.mem_of_getElem? (i := 201) rfl)) rfl
  | 28, _ => exact z_mem (zt_6 (List.mem_of_getElem? (i := 203) rfl)) rfl
  | 29, _ => exact z_mem (zt_6 (List.mem_of_getElem? (i := 205) rfl)) rfl
  | 30, _ => exact z_mem (zt_6 (List.mem_of_getElem? (i := 207) rfl)) rfl
  | 31, _ => exact z_mem (zt_6 (List.mem_of_getElem? (i := 209) rfl)) rfl
  | 32, _ => exact z_mem (zt_6 (List.mem_of_getElem? (i := 211) rfl)) rfl
  | 33, _ => exact z_mem (zt_6 (List.mem_of_getElem? (i := 213) rfl)) rfl
  | 34, _ => exact z_mem (zt_6 (List.mem_of_getElem? (i := 215) rfl)) rfl
  | 35, _ => exact z_mem (zt_6 (List.mem_of_getElem? (i := 217) rfl)) rfl
  | 36, _ => exact z_mem (zt_6 (List.mem_of_getElem? (i := 219) rfl)) rfl
  | 37, _ => exact z_mem (zt_6 (List.mem_of_getElem? (i := 221) rfl)) rfl
  | 38, _ => exact z_mem (zt_6 (List.mem_of_getElem? (i := 223) rfl)) rfl
  | 39, _ => exact z_mem (zt_6 (List.mem_of_getElem? (i := 225) rfl)) rfl
  | 40, _ => exact z_mem (zt_6 (List.mem_of_getElem? (i := 227) rfl)) rfl
  | 41, _ => exact z_mem (zt_6 (List.mem_of_getElem? (i := 229) rfl)) rfl
  | 42, _ => exact z_mem (zt_6 (List.mem_of_getElem? (i := 231) rfl)) rfl
  | 43, _ => exact z_mem (zt_6 (List.mem_of_getElem? (i := 233) rfl)) rfl
  | 44, _ => exact z_mem (zt_6 (List.mem_of_getElem? (i := 235) rfl)) rfl
  | 45, _ => exact z_mem (zt_6 (List.mem_of_getElem? (i := 237) rfl)) rfl
  | 46, _ => exact z_mem (zt_6 (List.mem_of_getElem? (i := 239) rfl)) rfl
  | 47, _ => exact z_mem (zt_7 (List.mem_of_getElem? (i := 1) rfl)) rfl
  | 48, _ => exact z_mem (zt_7 (List.mem_of_getElem? (i := 3) rfl)) rfl
  | 49, _ => exact z_mem (zt_7 (List.mem_of_getElem? (i := 5) rfl)) rfl
  | 50, _ => exact z_mem (zt_7 (List.mem_of_getElem? (i := 7) rfl)) rfl
  | 51, _ => exact z_mem (zt_7 (List.mem_of_getElem? (i := 9) rfl)) rfl
  | 52, _ => exact z_mem (zt_7 (List.mem_of_getElem? (i := 11) rfl)) rfl
  | 53, _ => exact z_mem (zt_7 (List.mem_of_getElem? (i := 13) rfl)) rfl
  | 54, _ => exact z_mem (zt_7 (List.mem_of_getElem? (i := 15) rfl)) rfl
  | 55, _ => exact z_mem (zt_7 (List.mem_of_getElem? (i := 17) rfl)) rfl
  | 56, _ => exact z_mem (zt_7 (List.mem_of_getElem? (i := 19) rfl)) rfl
  | 57, _ => exact z_mem (zt_7 (List.mem_of_getElem? (i := 21) rfl)) rfl
  | 58, _ => exact z_mem (zt_7 (List.mem_of_getElem? (i := 23) rfl)) rfl
  | 59, _ => exact z_mem (zt_7 (List.mem_of_getElem? (i := 25) rfl)) rfl
  | 60, _ => exact z_mem (zt_7 (List.mem_of_getElem? (i := 27) rfl)) rfl
  | 61, _ => exact z_mem (zt_7 (List.mem_of_getElem? (i := 29) rfl)) rfl
  | 62, _ => exact z_mem (zt_7 (List.mem_of_getElem? (i := 31) rfl)) rfl
  | 63, _ => exact z_mem (zt_7 (List.mem_of_getElem? (i := 33) rfl)) rfl
  | 64, _ => exact z_mem (zt_7 (List.mem_of_getElem? (i := 35) rfl)) rfl
  | 65, _ => exact z_mem (zt_7 (List.mem_of_getElem? (i := 37) rfl)) rfl
  | n + 66, h => exact absurd h (by omega)
theorem z_in : ∀ ci, ci < 12 → ∀ w ∈ u_ws (zR ci) (zT ci) (zN ci), w ∈ z_tbl := by
  intro ci h
  match ci, h with
  | 0, _ => exact z_in_0
  | 1, _ => exact z_in_1
  | 2, _ => exact z_in_2
  | 3, _ => exact z_in_3
  | 4, _ => exact z_in_4
  | 5, _ => exact z_in_5
  | 6, _ => exact z_in_6
  | 7, _ => exact z_in_7
  | 8, _ => exact z_in_8
  | 9, _ => exact z_in_9
  | 10, _ => exact z_in_10
  | 11, _ => exact z_in_11
  | n + 12, h => exact absurd h (by omega)
theorem z_ty : ∀ ci, ci < 12 → ∀ k, k < zN ci → parseFieldDescriptor (zT ci k).2.2.1 = some (zY ci k) := by decide +kernel
theorem z_nm : ∀ ci, ci < 12 → ∀ a, a < zN ci → ∀ b, b < zN ci → a ≠ b → (zT ci a).2.1 ≠ (zT ci b).2.1 := by decide +kernel
theorem z_own : ∀ ci, ci < 12 → ∀ k, k < zN ci → (zT ci k).1 = zR ci := by decide +kernel
theorem z_ia : ∀ ci, ci < 12 → Cond.instantiable (zR ci) (zN ci) ∈ z_tbl := by
  intro ci h
  match ci, h with
  | 0, _ => exact z_mem (zt_1 (List.mem_of_getElem? (i := 20) rfl)) rfl
  | 1, _ => exact z_mem (zt_1 (List.mem_of_getElem? (i := 28) rfl)) rfl
  | 2, _ => exact z_mem (zt_1 (List.mem_of_getElem? (i := 34) rfl)) rfl
  | 3, _ => exact z_mem (zt_1 (List.mem_of_getElem? (i := 73) rfl)) rfl
  | 4, _ => exact z_mem (zt_1 (List.mem_of_getElem? (i := 94) rfl)) rfl
  | 5, _ => exact z_mem (zt_1 (List.mem_of_getElem? (i := 100) rfl)) rfl
  | 6, _ => exact z_mem (zt_1 (List.mem_of_getElem? (i := 141) rfl)) rfl
  | 7, _ => exact z_mem (zt_1 (List.mem_of_getElem? (i := 184) rfl)) rfl
  | 8, _ => exact z_mem (zt_1 (List.mem_of_getElem? (i := 190) rfl)) rfl
  | 9, _ => exact z_mem (zt_1 (List.mem_of_getElem? (i := 214) rfl)) rfl
  | 10, _ => exact z_mem (zt_1 (List.mem_of_getElem? (i := 238) rfl)) rfl
  | 11, _ => exact z_mem (zt_6 (List.mem_of_getElem? (i := 6) rfl)) rfl
  | n + 12, h => exact absurd h (by omega)
theorem z_ini : ∀ ci, ci < 19 → Cond.initialized (zR ci) ∈ z_tbl := by
  intro ci h
  match ci, h with
  | 0, _ => exact z_mem (zt_1 (List.mem_of_getElem? (i := 1) rfl)) rfl
  | 1, _ => exact z_mem (zt_1 (List.mem_of_getElem? (i := 2) rfl)) rfl
  | 2, _ => exact z_mem (zt_1 (List.mem_of_getElem? (i := 3) rfl)) rfl
  | 3, _ => exact z_mem (zt_1 (List.mem_of_getElem? (i := 5) rfl)) rfl
  | 4, _ => exact z_mem (zt_1 (List.mem_of_getElem? (i := 6) rfl)) rfl
  | 5, _ => exact z_mem (zt_1 (List.mem_of_getElem? (i := 7) rfl)) rfl
  | 6, _ => exact z_mem (zt_1 (List.mem_of_getElem? (i := 8) rfl)) rfl
  | 7, _ => exact z_mem (zt_1 (List.mem_of_getElem? (i := 9) rfl)) rfl
  | 8, _ => exact z_mem (zt_1 (List.mem_of_getElem? (i := 10) rfl)) rfl
  | 9, _ => exact z_mem (zt_1 (List.mem_of_getElem? (i := 11) rfl)) rfl
  | 10, _ => exact z_mem (zt_1 (List.mem_of_getElem? (i := 12) rfl)) rfl
  | 11, _ => exact z_mem (zt_1 (List.mem_of_getElem? (i := 14) rfl)) rfl
  | 12, _ => exact z_mem (zt_1 (List.mem_of_getElem? (i := 0) rfl)) rfl
  | 13, _ => exact z_mem (zt_1 (List.mem_of_getElem? (i := 4) rfl)) rfl
  | 14, _ => exact z_mem (zt_1 (List.mem_of_getElem? (i := 13) rfl)) rfl
  | 15, _ => exact z_mem (zt_1 (List.mem_of_getElem? (i := 15) rfl)) rfl
  | 16, _ => exact z_mem (zt_1 (List.mem_of_getElem? (i := 16) rfl)) rfl
  | 17, _ => exact z_mem (zt_1 (List.mem_of_getElem? (i := 17) rfl)) rfl
  | 18, _ => exact z_mem (zt_1 (List.mem_of_getElem? (i := 18) rfl)) rfl
  | n + 19, h => exact absurd h (by omega)
theorem z_ac : Cond.arrayClass .int ∈ z_tbl ∧ Cond.arrayClass .long ∈ z_tbl := ⟨z_mem (zt_1 (List.mem_of_getElem? (i := 46) rfl)) rfl, z_mem (zt_1 (List.mem_of_getElem? (i := 200) rfl)) rfl⟩
def zFL (own ix ci k : Nat) : Prop := ci < 12 ∧ k < zN ci ∧ (Cond.fieldLink (zR own) ix (zR ci) (zT ci k).2.1 (zT ci k).2.2.1 ∈ z_tbl ∨ ∃ host, Cond.fieldLinkNest (zR own) ix (zR ci) (zT ci k).2.1 (zT ci k).2.2.1 host ∈ z_nst)
theorem f_T_10 : zFL 0 10 0 0 := ⟨by decide, by decide +kernel, Or.inl (z_mem (zt_2 (List.mem_of_getElem? (i := 190) rfl)) rfl)⟩
theorem f_T_21 : zFL 0 21 0 1 := ⟨by decide, by decide +kernel, Or.inl (z_mem (zt_2 (List.mem_of_getElem? (i := 191) rfl)) rfl)⟩
theorem f_T_28 : zFL 0 28 0 2 := ⟨by decide, by decide +kernel, Or.inl (z_mem (zt_2 (List.mem_of_getElem? (i := 192) rfl)) rfl)⟩
theorem f_T_32 : zFL 0 32 0 3 := ⟨by decide, by decide +kernel, Or.inl (z_mem (zt_2 (List.mem_of_getElem? (i := 193) rfl)) rfl)⟩
theorem f_T_42 : zFL 0 42 1 1 := ⟨by decide, by decide +kernel, Or.inr ⟨"TroupeSums", z_memN (zt_1 (List.mem_of_getElem? (i := 49) rfl)) rfl⟩⟩
theorem f_T_61 : zFL 0 61 4 0 := ⟨by decide, by decide +kernel, Or.inr ⟨"TroupeSums", z_memN (zt_2 (List.mem_of_getElem? (i := 33) rfl)) rfl⟩⟩
theorem f_T_65 : zFL 0 65 5 7 := ⟨by decide, by decide +kernel, Or.inr ⟨"TroupeSums", z_memN (zt_1 (List.mem_of_getElem? (i := 121) rfl)) rfl⟩⟩
theorem f_T_70 : zFL 0 70 3 2 := ⟨by decide, by decide +kernel, Or.inr ⟨"TroupeSums", z_memN (zt_1 (List.mem_of_getElem? (i := 81) rfl)) rfl⟩⟩
theorem f_T_73 : zFL 0 73 3 3 := ⟨by decide, by decide +kernel, Or.inr ⟨"TroupeSums", z_memN (zt_1 (List.mem_of_getElem? (i := 83) rfl)) rfl⟩⟩
theorem f_T_76 : zFL 0 76 5 5 := ⟨by decide, by decide +kernel, Or.inr ⟨"TroupeSums", z_memN (zt_1 (List.mem_of_getElem? (i := 114) rfl)) rfl⟩⟩
theorem f_T_79 : zFL 0 79 5 6 := ⟨by decide, by decide +kernel, Or.inr ⟨"TroupeSums", z_memN (zt_1 (List.mem_of_getElem? (i := 117) rfl)) rfl⟩⟩
theorem f_T_82 : zFL 0 82 4 6 := ⟨by decide, by decide +kernel, Or.inr ⟨"TroupeSums", z_memN (zt_2 (List.mem_of_getElem? (i := 46) rfl)) rfl⟩⟩
theorem f_T_85 : zFL 0 85 4 1 := ⟨by decide, by decide +kernel, Or.inr ⟨"TroupeSums", z_memN (zt_2 (List.mem_of_getElem? (i := 36) rfl)) rfl⟩⟩
theorem f_T_89 : zFL 0 89 6 6 := ⟨by decide, by decide +kernel, Or.inr ⟨"TroupeSums", z_memN (zt_1 (List.mem_of_getElem? (i := 159) rfl)) rfl⟩⟩
theorem f_T_94 : zFL 0 94 6 7 := ⟨by decide, by decide +kernel, Or.inr ⟨"TroupeSums", z_memN (zt_1 (List.mem_of_getElem? (i := 162) rfl)) rfl⟩⟩
theorem f_T_105 : zFL 0 105 4 7 := ⟨by decide, by decide +kernel, Or.inr ⟨"TroupeSums", z_memN (zt_2 (List.mem_of_getElem? (i := 49) rfl)) rfl⟩⟩
theorem f_T_114 : zFL 0 114 5 1 := ⟨by decide, by decide +kernel, Or.inr ⟨"TroupeSums", z_memN (zt_1 (List.mem_of_getElem? (i := 109) rfl)) rfl⟩⟩
theorem f_T_146 : zFL 0 146 6 4 := ⟨by decide, by decide +kernel, Or.inr ⟨"TroupeSums", z_memN (zt_1 (List.mem_of_getElem? (i := 155) rfl)) rfl⟩⟩
theorem f_T_169 : zFL 0 169 4 2 := ⟨by decide, by decide +kernel, Or.inr ⟨"TroupeSums", z_memN (zt_2 (List.mem_of_getElem? (i := 39) rfl)) rfl⟩⟩
theorem f_T_227 : zFL 0 227 4 3 := ⟨by decide, by decide +kernel, Or.inr ⟨"TroupeSums", z_memN (zt_2 (List.mem_of_getElem? (i := 41) rfl)) rfl⟩⟩
theorem f_T_262 : zFL 0 262 7 2 := ⟨by decide, by decide +kernel, Or.inr ⟨"TroupeSums", z_memN (zt_1 (List.mem_of_getElem? (i := 205) rfl)) rfl⟩⟩
theorem f_Tokens_14 : zFL 1 14 1 0 := ⟨by decide, by decide +kernel, Or.inl (z_mem (zt_1 (List.mem_of_getElem? (i := 47) rfl)) rfl)⟩
theorem f_Tokens_20 : zFL 1 20 1 1 := ⟨by decide, by decide +kernel, Or.inl (z_mem (zt_1 (List.mem_of_getElem? (i := 50) rfl)) rfl)⟩
theorem f_Tokens_28 : zFL 1 28 1 3 := ⟨by decide, by decide +kernel, Or.inl (z_mem (zt_1 (List.mem_of_getElem? (i := 54) rfl)) rfl)⟩
theorem f_Tokens_38 : zFL 1 38 1 2 := ⟨by decide, by decide +kernel, Or.inl (z_mem (zt_1 (List.mem_of_getElem? (i := 53) rfl)) rfl)⟩
theorem f_Tokens_41 : zFL 1 41 1 5 := ⟨by decide, by decide +kernel, Or.inl (z_mem (zt_1 (List.mem_of_getElem? (i := 57) rfl)) rfl)⟩
theorem f_Tokens_44 : zFL 1 44 1 4 := ⟨by decide, by decide +kernel, Or.inl (z_mem (zt_1 (List.mem_of_getElem? (i := 56) rfl)) rfl)⟩
theorem f_IntRow_13 : zFL 2 13 2 0 := ⟨by decide, by decide +kernel, Or.inl (z_mem (zt_1 (List.mem_of_getElem? (i := 42) rfl)) rfl)⟩
theorem f_Reader_9 : zFL 3 9 3 3 := ⟨by decide, by decide +kernel, Or.inl (z_mem (zt_1 (List.mem_of_getElem? (i := 82) rfl)) rfl)⟩
theorem f_Reader_15 : zFL 3 15 3 0 := ⟨by decide, by decide +kernel, Or.inl (z_mem (zt_1 (List.mem_of_getElem? (i := 78) rfl)) rfl)⟩
theorem f_Reader_19 : zFL 3 19 3 2 := ⟨by decide, by decide +kernel, Or.inl (z_mem (zt_1 (List.mem_of_getElem? (i := 80) rfl)) rfl)⟩
theorem f_Reader_27 : zFL 3 27 1 4 := ⟨by decide, by decide +kernel, Or.inr ⟨"TroupeSums", z_memN (zt_1 (List.mem_of_getElem? (i := 55) rfl)) rfl⟩⟩
theorem f_Reader_30 : zFL 3 30 1 2 := ⟨by decide, by decide +kernel, Or.inr ⟨"TroupeSums", z_memN (zt_1 (List.mem_of_getElem? (i := 52) rfl)) rfl⟩⟩
theorem f_Reader_57 : zFL 3 57 1 5 := ⟨by decide, by decide +kernel, Or.inr ⟨"TroupeSums", z_memN (zt_1 (List.mem_of_getElem? (i := 58) rfl)) rfl⟩⟩
theorem f_Reader_71 : zFL 3 71 4 0 := ⟨by decide, by decide +kernel, Or.inr ⟨"TroupeSums", z_memN (zt_2 (List.mem_of_getElem? (i := 34) rfl)) rfl⟩⟩
theorem f_Reader_75 : zFL 3 75 5 6 := ⟨by decide, by decide +kernel, Or.inr ⟨"TroupeSums", z_memN (zt_1 (List.mem_of_getElem? (i := 118) rfl)) rfl⟩⟩
theorem f_Reader_80 : zFL 3 80 5 5 := ⟨by decide, by decide +kernel, Or.inr ⟨"TroupeSums", z_memN (zt_1 (List.mem_of_getElem? (i := 115) rfl)) rfl⟩⟩
theorem f_Reader_98 : zFL 3 98 4 6 := ⟨by decide, by decide +kernel, Or.inr ⟨"TroupeSums", z_memN (zt_2 (List.mem_of_getElem? (i := 47) rfl)) rfl⟩⟩
theorem f_Reader_111 : zFL 3 111 4 4 := ⟨by decide, by decide +kernel, Or.inr ⟨"TroupeSums", z_memN (zt_2 (List.mem_of_getElem? (i := 43) rfl)) rfl⟩⟩
theorem f_Reader_115 : zFL 3 115 10 6 := ⟨by decide, by decide +kernel, Or.inr ⟨"TroupeSums", z_memN (zt_2 (List.mem_of_getElem? (i := 14) rfl)) rfl⟩⟩
theorem f_Reader_126 : zFL 3 126 3 1 := ⟨by decide, by decide +kernel, Or.inl (z_mem (zt_1 (List.mem_of_getElem? (i := 79) rfl)) rfl)⟩
theorem f_Reader_142 : zFL 3 142 10 5 := ⟨by decide, by decide +kernel, Or.inr ⟨"TroupeSums", z_memN (zt_2 (List.mem_of_getElem? (i := 12) rfl)) rfl⟩⟩
theorem f_Reader_149 : zFL 3 149 10 4 := ⟨by decide, by decide +kernel, Or.inr ⟨"TroupeSums", z_memN (zt_2 (List.mem_of_getElem? (i := 10) rfl)) rfl⟩⟩
theorem f_Reader_158 : zFL 3 158 4 1 := ⟨by decide, by decide +kernel, Or.inr ⟨"TroupeSums", z_memN (zt_2 (List.mem_of_getElem? (i := 37) rfl)) rfl⟩⟩
theorem f_Reader_162 : zFL 3 162 6 7 := ⟨by decide, by decide +kernel, Or.inr ⟨"TroupeSums", z_memN (zt_1 (List.mem_of_getElem? (i := 165) rfl)) rfl⟩⟩
theorem f_Reader_191 : zFL 3 191 1 1 := ⟨by decide, by decide +kernel, Or.inr ⟨"TroupeSums", z_memN (zt_1 (List.mem_of_getElem? (i := 51) rfl)) rfl⟩⟩
theorem f_Reader_194 : zFL 3 194 1 0 := ⟨by decide, by decide +kernel, Or.inr ⟨"TroupeSums", z_memN (zt_1 (List.mem_of_getElem? (i := 48) rfl)) rfl⟩⟩
theorem f_Troupe_12 : zFL 4 12 4 0 := ⟨by decide, by decide +kernel, Or.inl (z_mem (zt_2 (List.mem_of_getElem? (i := 32) rfl)) rfl)⟩
theorem f_Troupe_23 : zFL 4 23 4 1 := ⟨by decide, by decide +kernel, Or.inl (z_mem (zt_2 (List.mem_of_getElem? (i := 35) rfl)) rfl)⟩
theorem f_Troupe_32 : zFL 4 32 4 2 := ⟨by decide, by decide +kernel, Or.inl (z_mem (zt_2 (List.mem_of_getElem? (i := 38) rfl)) rfl)⟩
theorem f_Troupe_39 : zFL 4 39 4 3 := ⟨by decide, by decide +kernel, Or.inl (z_mem (zt_2 (List.mem_of_getElem? (i := 40) rfl)) rfl)⟩
theorem f_Troupe_57 : zFL 4 57 4 5 := ⟨by decide, by decide +kernel, Or.inl (z_mem (zt_2 (List.mem_of_getElem? (i := 44) rfl)) rfl)⟩
theorem f_Troupe_64 : zFL 4 64 4 6 := ⟨by decide, by decide +kernel, Or.inl (z_mem (zt_2 (List.mem_of_getElem? (i := 45) rfl)) rfl)⟩
theorem f_Troupe_68 : zFL 4 68 4 7 := ⟨by decide, by decide +kernel, Or.inl (z_mem (zt_2 (List.mem_of_getElem? (i := 48) rfl)) rfl)⟩
theorem f_Troupe_71 : zFL 4 71 4 8 := ⟨by decide, by decide +kernel, Or.inl (z_mem (zt_2 (List.mem_of_getElem? (i := 50) rfl)) rfl)⟩
theorem f_Group_14 : zFL 5 14 5 0 := ⟨by decide, by decide +kernel, Or.inl (z_mem (zt_1 (List.mem_of_getElem? (i := 107) rfl)) rfl)⟩
theorem f_Group_20 : zFL 5 20 5 1 := ⟨by decide, by decide +kernel, Or.inl (z_mem (zt_1 (List.mem_of_getElem? (i := 108) rfl)) rfl)⟩
theorem f_Group_23 : zFL 5 23 5 2 := ⟨by decide, by decide +kernel, Or.inl (z_mem (zt_1 (List.mem_of_getElem? (i := 110) rfl)) rfl)⟩
theorem f_Group_26 : zFL 5 26 5 3 := ⟨by decide, by decide +kernel, Or.inl (z_mem (zt_1 (List.mem_of_getElem? (i := 111) rfl)) rfl)⟩
theorem f_Group_29 : zFL 5 29 5 4 := ⟨by decide, by decide +kernel, Or.inl (z_mem (zt_1 (List.mem_of_getElem? (i := 112) rfl)) rfl)⟩
theorem f_Group_32 : zFL 5 32 5 5 := ⟨by decide, by decide +kernel, Or.inl (z_mem (zt_1 (List.mem_of_getElem? (i := 113) rfl)) rfl)⟩
theorem f_Group_36 : zFL 5 36 5 6 := ⟨by decide, by decide +kernel, Or.inl (z_mem (zt_1 (List.mem_of_getElem? (i := 116) rfl)) rfl)⟩
theorem f_Group_39 : zFL 5 39 5 7 := ⟨by decide, by decide +kernel, Or.inl (z_mem (zt_1 (List.mem_of_getElem? (i := 119) rfl)) rfl)⟩
theorem f_Sorts_14 : zFL 6 14 6 1 := ⟨by decide, by decide +kernel, Or.inl (z_mem (zt_1 (List.mem_of_getElem? (i := 150) rfl)) rfl)⟩
theorem f_Sorts_20 : zFL 6 20 6 2 := ⟨by decide, by decide +kernel, Or.inl (z_mem (zt_1 (List.mem_of_getElem? (i := 151) rfl)) rfl)⟩
theorem f_Sorts_23 : zFL 6 23 6 3 := ⟨by decide, by decide +kernel, Or.inl (z_mem (zt_1 (List.mem_of_getElem? (i := 152) rfl)) rfl)⟩
theorem f_Sorts_26 : zFL 6 26 6 4 := ⟨by decide, by decide +kernel, Or.inl (z_mem (zt_1 (List.mem_of_getElem? (i := 153) rfl)) rfl)⟩
theorem f_Sorts_29 : zFL 6 29 6 5 := ⟨by decide, by decide +kernel, Or.inl (z_mem (zt_1 (List.mem_of_getElem? (i := 156) rfl)) rfl)⟩
theorem f_Sorts_32 : zFL 6 32 6 0 := ⟨by decide, by decide +kernel, Or.inl (z_mem (zt_1 (List.mem_of_getElem? (i := 148) rfl)) rfl)⟩
theorem f_Sorts_36 : zFL 6 36 6 6 := ⟨by decide, by decide +kernel, Or.inl (z_mem (zt_1 (List.mem_of_getElem? (i := 158) rfl)) rfl)⟩
theorem f_Sorts_44 : zFL 6 44 5 7 := ⟨by decide, by decide +kernel, Or.inr ⟨"TroupeSums", z_memN (zt_1 (List.mem_of_getElem? (i := 120) rfl)) rfl⟩⟩
theorem f_Sorts_83 : zFL 6 83 6 7 := ⟨by decide, by decide +kernel, Or.inl (z_mem (zt_1 (List.mem_of_getElem? (i := 163) rfl)) rfl)⟩
theorem f_Sums_16 : zFL 7 16 7 1 := ⟨by decide, by decide +kernel, Or.inl (z_mem (zt_1 (List.mem_of_getElem? (i := 203) rfl)) rfl)⟩
theorem f_Sums_20 : zFL 7 20 7 2 := ⟨by decide, by decide +kernel, Or.inl (z_mem (zt_1 (List.mem_of_getElem? (i := 204) rfl)) rfl)⟩
theorem f_Sums_23 : zFL 7 23 7 0 := ⟨by decide, by decide +kernel, Or.inl (z_mem (zt_1 (List.mem_of_getElem? (i := 201) rfl)) rfl)⟩
theorem f_Sums_35 : zFL 7 35 6 7 := ⟨by decide, by decide +kernel, Or.inr ⟨"TroupeSums", z_memN (zt_1 (List.mem_of_getElem? (i := 160) rfl)) rfl⟩⟩
theorem f_Sums_41 : zFL 7 41 6 5 := ⟨by decide, by decide +kernel, Or.inr ⟨"TroupeSums", z_memN (zt_1 (List.mem_of_getElem? (i := 157) rfl)) rfl⟩⟩
theorem f_LongRow_13 : zFL 8 13 8 0 := ⟨by decide, by decide +kernel, Or.inl (z_mem (zt_1 (List.mem_of_getElem? (i := 196) rfl)) rfl)⟩
theorem f_Units_14 : zFL 9 14 9 1 := ⟨by decide, by decide +kernel, Or.inl (z_mem (zt_1 (List.mem_of_getElem? (i := 222) rfl)) rfl)⟩
theorem f_Units_20 : zFL 9 20 9 2 := ⟨by decide, by decide +kernel, Or.inl (z_mem (zt_1 (List.mem_of_getElem? (i := 223) rfl)) rfl)⟩
theorem f_Units_23 : zFL 9 23 9 0 := ⟨by decide, by decide +kernel, Or.inl (z_mem (zt_1 (List.mem_of_getElem? (i := 221) rfl)) rfl)⟩
theorem f_Units_27 : zFL 9 27 9 4 := ⟨by decide, by decide +kernel, Or.inl (z_mem (zt_1 (List.mem_of_getElem? (i := 225) rfl)) rfl)⟩
theorem f_Units_31 : zFL 9 31 9 3 := ⟨by decide, by decide +kernel, Or.inl (z_mem (zt_1 (List.mem_of_getElem? (i := 224) rfl)) rfl)⟩
theorem f_Units_35 : zFL 9 35 6 7 := ⟨by decide, by decide +kernel, Or.inr ⟨"TroupeSums", z_memN (zt_1 (List.mem_of_getElem? (i := 161) rfl)) rfl⟩⟩
theorem f_Units_50 : zFL 9 50 6 0 := ⟨by decide, by decide +kernel, Or.inr ⟨"TroupeSums", z_memN (zt_1 (List.mem_of_getElem? (i := 149) rfl)) rfl⟩⟩
theorem f_Units_54 : zFL 9 54 6 4 := ⟨by decide, by decide +kernel, Or.inr ⟨"TroupeSums", z_memN (zt_1 (List.mem_of_getElem? (i := 154) rfl)) rfl⟩⟩
theorem f_Units_66 : zFL 9 66 5 7 := ⟨by decide, by decide +kernel, Or.inr ⟨"TroupeSums", z_memN (zt_1 (List.mem_of_getElem? (i := 122) rfl)) rfl⟩⟩
theorem f_Calc_14 : zFL 10 14 10 1 := ⟨by decide, by decide +kernel, Or.inl (z_mem (zt_2 (List.mem_of_getElem? (i := 6) rfl)) rfl)⟩
theorem f_Calc_20 : zFL 10 20 10 0 := ⟨by decide, by decide +kernel, Or.inl (z_mem (zt_2 (List.mem_of_getElem? (i := 5) rfl)) rfl)⟩
theorem f_Calc_24 : zFL 10 24 10 2 := ⟨by decide, by decide +kernel, Or.inl (z_mem (zt_2 (List.mem_of_getElem? (i := 7) rfl)) rfl)⟩
theorem f_Calc_28 : zFL 10 28 10 3 := ⟨by decide, by decide +kernel, Or.inl (z_mem (zt_2 (List.mem_of_getElem? (i := 8) rfl)) rfl)⟩
theorem f_Calc_31 : zFL 10 31 10 4 := ⟨by decide, by decide +kernel, Or.inl (z_mem (zt_2 (List.mem_of_getElem? (i := 9) rfl)) rfl)⟩
theorem f_Calc_34 : zFL 10 34 10 5 := ⟨by decide, by decide +kernel, Or.inl (z_mem (zt_2 (List.mem_of_getElem? (i := 11) rfl)) rfl)⟩
theorem f_Calc_37 : zFL 10 37 10 6 := ⟨by decide, by decide +kernel, Or.inl (z_mem (zt_2 (List.mem_of_getElem? (i := 13) rfl)) rfl)⟩
theorem f_Calc_68 : zFL 10 68 7 0 := ⟨by decide, by decide +kernel, Or.inr ⟨"TroupeSums", z_memN (zt_1 (List.mem_of_getElem? (i := 202) rfl)) rfl⟩⟩
theorem f_Calc_72 : zFL 10 72 6 7 := ⟨by decide, by decide +kernel, Or.inr ⟨"TroupeSums", z_memN (zt_1 (List.mem_of_getElem? (i := 164) rfl)) rfl⟩⟩
theorem f_M_7 : zFL 11 7 11 0 := ⟨by decide, by decide +kernel, Or.inl (z_mem (zt_6 (List.mem_of_getElem? (i := 81) rfl)) rfl)⟩
theorem f_M_13 : zFL 11 13 11 8 := ⟨by decide, by decide +kernel, Or.inl (z_mem (zt_6 (List.mem_of_getElem? (i := 89) rfl)) rfl)⟩
theorem f_M_17 : zFL 11 17 11 10 := ⟨by decide, by decide +kernel, Or.inl (z_mem (zt_6 (List.mem_of_getElem? (i := 91) rfl)) rfl)⟩
theorem f_M_20 : zFL 11 20 11 15 := ⟨by decide, by decide +kernel, Or.inl (z_mem (zt_6 (List.mem_of_getElem? (i := 96) rfl)) rfl)⟩
theorem f_M_23 : zFL 11 23 11 19 := ⟨by decide, by decide +kernel, Or.inl (z_mem (zt_6 (List.mem_of_getElem? (i := 100) rfl)) rfl)⟩
theorem f_M_26 : zFL 11 26 11 21 := ⟨by decide, by decide +kernel, Or.inl (z_mem (zt_6 (List.mem_of_getElem? (i := 102) rfl)) rfl)⟩
theorem f_M_29 : zFL 11 29 11 22 := ⟨by decide, by decide +kernel, Or.inl (z_mem (zt_6 (List.mem_of_getElem? (i := 103) rfl)) rfl)⟩
theorem f_M_32 : zFL 11 32 11 23 := ⟨by decide, by decide +kernel, Or.inl (z_mem (zt_6 (List.mem_of_getElem? (i := 104) rfl)) rfl)⟩
theorem f_M_35 : zFL 11 35 11 24 := ⟨by decide, by decide +kernel, Or.inl (z_mem (zt_6 (List.mem_of_getElem? (i := 105) rfl)) rfl)⟩
theorem f_M_38 : zFL 11 38 11 27 := ⟨by decide, by decide +kernel, Or.inl (z_mem (zt_6 (List.mem_of_getElem? (i := 108) rfl)) rfl)⟩
theorem f_M_41 : zFL 11 41 11 28 := ⟨by decide, by decide +kernel, Or.inl (z_mem (zt_6 (List.mem_of_getElem? (i := 109) rfl)) rfl)⟩
theorem f_M_44 : zFL 11 44 11 29 := ⟨by decide, by decide +kernel, Or.inl (z_mem (zt_6 (List.mem_of_getElem? (i := 110) rfl)) rfl)⟩
theorem f_M_47 : zFL 11 47 11 30 := ⟨by decide, by decide +kernel, Or.inl (z_mem (zt_6 (List.mem_of_getElem? (i := 111) rfl)) rfl)⟩
theorem f_M_50 : zFL 11 50 11 31 := ⟨by decide, by decide +kernel, Or.inl (z_mem (zt_6 (List.mem_of_getElem? (i := 112) rfl)) rfl)⟩
theorem f_M_53 : zFL 11 53 11 32 := ⟨by decide, by decide +kernel, Or.inl (z_mem (zt_6 (List.mem_of_getElem? (i := 113) rfl)) rfl)⟩
theorem f_M_56 : zFL 11 56 11 33 := ⟨by decide, by decide +kernel, Or.inl (z_mem (zt_6 (List.mem_of_getElem? (i := 114) rfl)) rfl)⟩
theorem f_M_60 : zFL 11 60 11 34 := ⟨by decide, by decide +kernel, Or.inl (z_mem (zt_6 (List.mem_of_getElem? (i := 115) rfl)) rfl)⟩
theorem f_M_63 : zFL 11 63 11 35 := ⟨by decide, by decide +kernel, Or.inl (z_mem (zt_6 (List.mem_of_getElem? (i := 116) rfl)) rfl)⟩
theorem f_M_66 : zFL 11 66 11 36 := ⟨by decide, by decide +kernel, Or.inl (z_mem (zt_6 (List.mem_of_getElem? (i := 117) rfl)) rfl)⟩
theorem f_M_69 : zFL 11 69 11 37 := ⟨by decide, by decide +kernel, Or.inl (z_mem (zt_6 (List.mem_of_getElem? (i := 118) rfl)) rfl)⟩
theorem f_M_72 : zFL 11 72 11 40 := ⟨by decide, by decide +kernel, Or.inl (z_mem (zt_6 (List.mem_of_getElem? (i := 121) rfl)) rfl)⟩
theorem f_M_75 : zFL 11 75 11 44 := ⟨by decide, by decide +kernel, Or.inl (z_mem (zt_6 (List.mem_of_getElem? (i := 125) rfl)) rfl)⟩
theorem f_M_78 : zFL 11 78 11 45 := ⟨by decide, by decide +kernel, Or.inl (z_mem (zt_6 (List.mem_of_getElem? (i := 126) rfl)) rfl)⟩
theorem f_M_81 : zFL 11 81 11 46 := ⟨by decide, by decide +kernel, Or.inl (z_mem (zt_6 (List.mem_of_getElem? (i := 127) rfl)) rfl)⟩
theorem f_M_84 : zFL 11 84 11 47 := ⟨by decide, by decide +kernel, Or.inl (z_mem (zt_6 (List.mem_of_getElem? (i := 128) rfl)) rfl)⟩
theorem f_M_87 : zFL 11 87 11 48 := ⟨by decide, by decide +kernel, Or.inl (z_mem (zt_6 (List.mem_of_getElem? (i := 129) rfl)) rfl)⟩
theorem f_M_90 : zFL 11 90 11 49 := ⟨by decide, by decide +kernel, Or.inl (z_mem (zt_6 (List.mem_of_getElem? (i := 130) rfl)) rfl)⟩
theorem f_M_93 : zFL 11 93 11 50 := ⟨by decide, by decide +kernel, Or.inl (z_mem (zt_6 (List.mem_of_getElem? (i := 131) rfl)) rfl)⟩
theorem f_M_96 : zFL 11 96 11 51 := ⟨by decide, by decide +kernel, Or.inl (z_mem (zt_6 (List.mem_of_getElem? (i := 132) rfl)) rfl)⟩
theorem f_M_99 : zFL 11 99 11 54 := ⟨by decide, by decide +kernel, Or.inl (z_mem (zt_6 (List.mem_of_getElem? (i := 135) rfl)) rfl)⟩
theorem f_M_103 : zFL 11 103 11 56 := ⟨by decide, by decide +kernel, Or.inl (z_mem (zt_6 (List.mem_of_getElem? (i := 137) rfl)) rfl)⟩
theorem f_M_106 : zFL 11 106 11 59 := ⟨by decide, by decide +kernel, Or.inl (z_mem (zt_6 (List.mem_of_getElem? (i := 140) rfl)) rfl)⟩
theorem f_M_109 : zFL 11 109 11 61 := ⟨by decide, by decide +kernel, Or.inl (z_mem (zt_6 (List.mem_of_getElem? (i := 142) rfl)) rfl)⟩
theorem f_M_112 : zFL 11 112 11 62 := ⟨by decide, by decide +kernel, Or.inl (z_mem (zt_6 (List.mem_of_getElem? (i := 143) rfl)) rfl)⟩
theorem f_M_115 : zFL 11 115 11 12 := ⟨by decide, by decide +kernel, Or.inl (z_mem (zt_6 (List.mem_of_getElem? (i := 93) rfl)) rfl)⟩
theorem f_M_124 : zFL 11 124 11 1 := ⟨by decide, by decide +kernel, Or.inl (z_mem (zt_6 (List.mem_of_getElem? (i := 82) rfl)) rfl)⟩
theorem f_M_135 : zFL 11 135 11 3 := ⟨by decide, by decide +kernel, Or.inl (z_mem (zt_6 (List.mem_of_getElem? (i := 84) rfl)) rfl)⟩
theorem f_M_138 : zFL 11 138 11 2 := ⟨by decide, by decide +kernel, Or.inl (z_mem (zt_6 (List.mem_of_getElem? (i := 83) rfl)) rfl)⟩
theorem f_M_145 : zFL 11 145 11 4 := ⟨by decide, by decide +kernel, Or.inl (z_mem (zt_6 (List.mem_of_getElem? (i := 85) rfl)) rfl)⟩
theorem f_M_148 : zFL 11 148 11 11 := ⟨by decide, by decide +kernel, Or.inl (z_mem (zt_6 (List.mem_of_getElem? (i := 92) rfl)) rfl)⟩
theorem f_M_152 : zFL 11 152 11 6 := ⟨by decide, by decide +kernel, Or.inl (z_mem (zt_6 (List.mem_of_getElem? (i := 87) rfl)) rfl)⟩
theorem f_M_155 : zFL 11 155 11 5 := ⟨by decide, by decide +kernel, Or.inl (z_mem (zt_6 (List.mem_of_getElem? (i := 86) rfl)) rfl)⟩
theorem f_M_172 : zFL 11 172 11 7 := ⟨by decide, by decide +kernel, Or.inl (z_mem (zt_6 (List.mem_of_getElem? (i := 88) rfl)) rfl)⟩
theorem f_M_196 : zFL 11 196 11 20 := ⟨by decide, by decide +kernel, Or.inl (z_mem (zt_6 (List.mem_of_getElem? (i := 101) rfl)) rfl)⟩
theorem f_M_199 : zFL 11 199 11 13 := ⟨by decide, by decide +kernel, Or.inl (z_mem (zt_6 (List.mem_of_getElem? (i := 94) rfl)) rfl)⟩
theorem f_M_220 : zFL 11 220 11 25 := ⟨by decide, by decide +kernel, Or.inl (z_mem (zt_6 (List.mem_of_getElem? (i := 106) rfl)) rfl)⟩
theorem f_M_235 : zFL 11 235 11 26 := ⟨by decide, by decide +kernel, Or.inl (z_mem (zt_6 (List.mem_of_getElem? (i := 107) rfl)) rfl)⟩
theorem f_M_268 : zFL 11 268 11 38 := ⟨by decide, by decide +kernel, Or.inl (z_mem (zt_6 (List.mem_of_getElem? (i := 119) rfl)) rfl)⟩
theorem f_M_275 : zFL 11 275 11 39 := ⟨by decide, by decide +kernel, Or.inl (z_mem (zt_6 (List.mem_of_getElem? (i := 120) rfl)) rfl)⟩
theorem f_M_293 : zFL 11 293 11 43 := ⟨by decide, by decide +kernel, Or.inl (z_mem (zt_6 (List.mem_of_getElem? (i := 124) rfl)) rfl)⟩
theorem f_M_296 : zFL 11 296 11 42 := ⟨by decide, by decide +kernel, Or.inl (z_mem (zt_6 (List.mem_of_getElem? (i := 123) rfl)) rfl)⟩
theorem f_M_299 : zFL 11 299 11 14 := ⟨by decide, by decide +kernel, Or.inl (z_mem (zt_6 (List.mem_of_getElem? (i := 95) rfl)) rfl)⟩
theorem f_M_305 : zFL 11 305 11 41 := ⟨by decide, by decide +kernel, Or.inl (z_mem (zt_6 (List.mem_of_getElem? (i := 122) rfl)) rfl)⟩
theorem f_M_379 : zFL 11 379 11 9 := ⟨by decide, by decide +kernel, Or.inl (z_mem (zt_6 (List.mem_of_getElem? (i := 90) rfl)) rfl)⟩
theorem f_M_382 : zFL 11 382 11 16 := ⟨by decide, by decide +kernel, Or.inl (z_mem (zt_6 (List.mem_of_getElem? (i := 97) rfl)) rfl)⟩
theorem f_M_385 : zFL 11 385 11 17 := ⟨by decide, by decide +kernel, Or.inl (z_mem (zt_6 (List.mem_of_getElem? (i := 98) rfl)) rfl)⟩
theorem f_M_388 : zFL 11 388 11 18 := ⟨by decide, by decide +kernel, Or.inl (z_mem (zt_6 (List.mem_of_getElem? (i := 99) rfl)) rfl)⟩
theorem f_M_391 : zFL 11 391 11 60 := ⟨by decide, by decide +kernel, Or.inl (z_mem (zt_6 (List.mem_of_getElem? (i := 141) rfl)) rfl)⟩
theorem f_M_394 : zFL 11 394 11 58 := ⟨by decide, by decide +kernel, Or.inl (z_mem (zt_6 (List.mem_of_getElem? (i := 139) rfl)) rfl)⟩
theorem f_M_436 : zFL 11 436 11 52 := ⟨by decide, by decide +kernel, Or.inl (z_mem (zt_6 (List.mem_of_getElem? (i := 133) rfl)) rfl)⟩
theorem f_M_439 : zFL 11 439 11 53 := ⟨by decide, by decide +kernel, Or.inl (z_mem (zt_6 (List.mem_of_getElem? (i := 134) rfl)) rfl)⟩
theorem f_M_453 : zFL 11 453 11 55 := ⟨by decide, by decide +kernel, Or.inl (z_mem (zt_6 (List.mem_of_getElem? (i := 136) rfl)) rfl)⟩
theorem f_M_459 : zFL 11 459 11 57 := ⟨by decide, by decide +kernel, Or.inl (z_mem (zt_6 (List.mem_of_getElem? (i := 138) rfl)) rfl)⟩
theorem f_M_487 : zFL 11 487 11 63 := ⟨by decide, by decide +kernel, Or.inl (z_mem (zt_6 (List.mem_of_getElem? (i := 144) rfl)) rfl)⟩
theorem f_M_504 : zFL 11 504 11 64 := ⟨by decide, by decide +kernel, Or.inl (z_mem (zt_6 (List.mem_of_getElem? (i := 145) rfl)) rfl)⟩
theorem f_M_511 : zFL 11 511 11 65 := ⟨by decide, by decide +kernel, Or.inl (z_mem (zt_6 (List.mem_of_getElem? (i := 146) rfl)) rfl)⟩
abbrev zMem : Type := (Nat × Nat) × (Nat → Nat × Nat) × (Nat → Nat → Int32) × (Nat → Nat → Int64) × (Nat → Nat → Option Nat)
def zn (M : zMem) : Nat := M.1.1
def zw (M : zMem) : Nat := M.1.2
def zsh (M : zMem) : Nat → Nat × Nat := M.2.1
def zi (M : zMem) : Nat → Nat → Int32 := M.2.2.1
def zj (M : zMem) : Nat → Nat → Int64 := M.2.2.2.1
def zf (M : zMem) : Nat → Nat → Option Nat := M.2.2.2.2
def zup2 {α : Type} (f : Nat → Nat → α) (q k : Nat) (v : α) : Nat → Nat → α := fun q' k' => if q' = q ∧ k' = k then v else f q' k'
def zsI (M : zMem) (q k : Nat) (v : Int32) : zMem := (M.1, M.2.1, zup2 M.2.2.1 q k v, M.2.2.2.1, M.2.2.2.2)
def zsJ (M : zMem) (q k : Nat) (v : Int64) : zMem := (M.1, M.2.1, M.2.2.1, zup2 M.2.2.2.1 q k v, M.2.2.2.2)
def zsF (M : zMem) (q k : Nat) (v : Option Nat) : zMem := (M.1, M.2.1, M.2.2.1, M.2.2.2.1, zup2 M.2.2.2.2 q k v)
def zal (M : zMem) (t n : Nat) : zMem := ((M.1.1 + 1, M.1.2 + n), fun q => if q = M.1.1 then (t, n) else M.2.1 q, fun q => if q = M.1.1 then fun _ => 0 else M.2.2.1 q, fun q => if q = M.1.1 then fun _ => 0 else M.2.2.2.1 q, fun q => if q = M.1.1 then fun _ => none else M.2.2.2.2 q)
def zV (ad : Nat → Nat) (M : zMem) (q k g : Nat) : Value := if g = 0 then .int (zi M q k) else if g = 1 then .long (zj M q k) else va_rf ((zf M q k).map ad)
def zFs (ad : Nat → Nat) (M : zMem) (q ci : Nat) : List Value := (List.range (zN ci)).map (fun k => zV ad M q k (zG ci k))
def zE (cI cJ : ClassId) (ad : Nat → Nat) (M : zMem) (q : Nat) : va_E := if (zsh M q).1 = 1 then .inl (cI, (zsh M q).2, .inl (zi M q)) else if (zsh M q).1 = 2 then .inl (cJ, (zsh M q).2, .inr (.inl (zj M q))) else .inr ((zsh M q).1 - 3, zFs ad M q ((zsh M q).1 - 3))
def zws (cI cJ : ClassId) (ad : Nat → Nat) (M : zMem) : va_W := (List.range (zn M)).map (fun q => (ad q, zE cI cJ ad M q))
def zOK (ad : Nat → Nat) (M : zMem) : Prop := zn M ≤ 1000000 ∧ (∀ i, i < 1000000 → ad i = ad 0 + i) ∧ ∀ q, zn M ≤ q → (zsh M q).1 = 0
theorem zws_get {cI cJ : ClassId} {ad : Nat → Nat} {M : zMem} {q : Nat} (h : q < zn M) : (zws cI cJ ad M)[q]? = some (ad q, zE cI cJ ad M q) := by
  simp [zws, h]
theorem zws_lt {cI cJ : ClassId} {ad : Nat → Nat} {M : zMem} {k : Nat} {x : Nat × va_E} (h : (zws cI cJ ad M)[k]? = some x) : k < zn M ∧ x = (ad k, zE cI cJ ad M k) := by
  have hk : k < zn M := by
    have := (List.getElem?_eq_some_iff.mp h).1
    simpa [zws] using this
  rw [zws_get hk] at h
  exact ⟨hk, (Option.some.inj h).symm⟩
theorem zws_D {cI cJ : ClassId} {ad : Nat → Nat} {M : zMem} (h : zOK ad M) : va_D (fun q => ad 0 ≤ q) (zws cI cJ ad M) := by
  obtain ⟨h1, h2, -⟩ := h
  refine ⟨fun i j p q hi hj hpq => ?_, fun k q hk => ?_⟩
  · obtain ⟨a1, rfl⟩ := zws_lt hi
    obtain ⟨b1, rfl⟩ := zws_lt hj
    have e1 := h2 i (by omega)
    have e2 := h2 j (by omega)
    simp only at hpq
    omega
  · obtain ⟨a1, rfl⟩ := zws_lt hk
    have e1 := h2 k (by omega)
    show ad 0 ≤ ad k
    omega
theorem zws_set {cI cJ : ClassId} {ad : Nat → Nat} {M M1 : zMem} {q : Nat} {x : va_E} (hn : zn M1 = zn M) (hx : x = zE cI cJ ad M1 q) (ho : ∀ i, i ≠ q → zE cI cJ ad M1 i = zE cI cJ ad M i) : (zws cI cJ ad M).set q (ad q, x) = zws cI cJ ad M1 := by
  subst hx
  apply List.ext_getElem?
  intro i
  by_cases hi : i < zn M
  · rw [zws_get (M := M1) (by omega)]
    by_cases hq : i = q
    · subst hq
      rw [List.getElem?_set_self (by simpa [zws] using hi)]
    · rw [List.getElem?_set_ne (Ne.symm hq), zws_get hi, ho i hq]
  · rw [List.getElem?_eq_none (by simp [zws]; omega), List.getElem?_eq_none (by simp [zws]; omega)]
theorem zE_congr {cI cJ : ClassId} {ad : Nat → Nat} {M M1 : zMem} {q : Nat} (h1 : zsh M1 q = zsh M q) (h2 : zi M1 q = zi M q) (h3 : zj M1 q = zj M q) (h4 : zf M1 q = zf M q) : zE cI cJ ad M1 q = zE cI cJ ad M q := by
  unfold zE zFs zV
  rw [h1, h2, h3, h4]
theorem zws_push {cI cJ : ClassId} {ad : Nat → Nat} {M : zMem} {t n : Nat} {x : va_E} (hx : x = zE cI cJ ad (zal M t n) (zn M)) : zws cI cJ ad M ++ [(ad (zn M), x)] = zws cI cJ ad (zal M t n) := by
  subst hx
  apply List.ext_getElem?
  intro i
  have hz : zn (zal M t n) = zn M + 1 := rfl
  by_cases hi : i < zn M
  · rw [List.getElem?_append_left (by simpa [zws] using hi), zws_get hi, zws_get (M := zal M t n) (by omega)]
    have hne : ¬ i = M.1.1 := by
      have : zn M = M.1.1 := rfl
      omega
    congr 2
    refine (zE_congr ?_ ?_ ?_ ?_).symm <;> simp [zsh, zi, zj, zf, zal, hne]
  · by_cases he : i = zn M
    · subst he
      rw [List.getElem?_append_right (by simp [zws]), zws_get (M := zal M t n) (by omega)]
      simp [zws]
    · rw [List.getElem?_eq_none (by simp [zws]; omega), List.getElem?_eq_none (by simp [zws]; omega)]
def zv (ad : Nat → Nat) (v : Value) : Value := match v with
  | .ref q => .ref (ad q)
  | v => v
theorem zv_cat (ad : Nat → Nat) (v : Value) : (zv ad v).category = v.category := by cases v <;> rfl
theorem zv_cats (ad : Nat → Nat) (S : List Value) : ((S.map (zv ad)).map fun v => v.category).sum = (S.map fun v => v.category).sum := by
  rw [List.map_map]
  congr 1
  apply List.map_congr_left
  intro v _
  exact zv_cat ad v
def zlv (ad : Nat → Nat) : Nat → List (Option Value) → List (Nat × Value)
  | _, [] => []
  | i, none :: t => zlv ad (i + 1) t
  | i, some v :: t => (i, zv ad v) :: zlv ad (i + 1) t
theorem zlv_mem {ad : Nat → Nat} : ∀ (L : List (Option Value)) (i : Nat) (q : Nat × Value), q ∈ zlv ad i L ↔ ∃ (j : Nat) (v : Value), L[j]? = some (some v) ∧ q = (i + j, zv ad v)
  | [], i, q => by simp [zlv]
  | none :: t, i, q => by
    rw [zlv, zlv_mem t (i + 1) q]
    constructor
    · rintro ⟨j, v, h, rfl⟩
      exact ⟨j + 1, v, by simpa using h, by rw [show i + 1 + j = i + (j + 1) by omega]⟩
    · rintro ⟨j, v, h, rfl⟩
      cases j with
      | zero => simp at h
      | succ j => exact ⟨j, v, by simpa using h, by rw [show i + 1 + j = i + (j + 1) by omega]⟩
  | some w :: t, i, q => by
    rw [zlv, List.mem_cons, zlv_mem t (i + 1) q]
    constructor
    · rintro (rfl | ⟨j, v, h, rfl⟩)
      · exact ⟨0, w, by simp, by simp⟩
      · exact ⟨j + 1, v, by simpa using h, by rw [show i + 1 + j = i + (j + 1) by omega]⟩
    · rintro ⟨j, v, h, rfl⟩
      cases j with
      | zero =>
        have e : w = v := by simpa using h
        subst e
        exact Or.inl rfl
      | succ j => exact Or.inr ⟨j, v, by simpa using h, by rw [show i + 1 + j = i + (j + 1) by omega]⟩
theorem zlv_at {ad : Nat → Nat} {ls : Array Slot} {nL : Nat} {L : List (Option Value)} (h : lv_has ls nL (zlv ad 0 L)) {i : Nat} {v : Value} (hi : L[i]? = some (some v)) : ls[i]? = some (.val (zv ad v)) :=
  h.2.2 (i, zv ad v) ((zlv_mem L 0 _).mpr ⟨i, v, hi, by rw [Nat.zero_add]⟩)
theorem lv_less {ls : Array Slot} {nL : Nat} {l l' : List (Nat × Value)} (h : lv_has ls nL l) (hs : ∀ q ∈ l', q ∈ l) : lv_has ls nL l' := ⟨h.1, h.2.1, fun q hq => h.2.2 q (hs q hq)⟩
def zlong (o : Option Value) : Bool := match o with
  | some (.long _) => true
  | some (.double _) => true
  | _ => false
theorem zlong_cat {v : Value} (h : zlong (some v) = false) : ¬ v.category = 2 := by cases v <;> simp_all [zlong, Value.category]
def zcl1 (L : List (Option Value)) : Nat → List (Option Value)
  | 0 => L
  | j + 1 => match zlong (L.getD j none) with
    | true => L.set j none
    | false => L
def zst1 (L : List (Option Value)) (i : Nat) (v : Value) : List (Option Value) := (zcl1 L i).set i (some v)
def zst2 (L : List (Option Value)) (i : Nat) (v : Value) : List (Option Value) := ((zcl1 L i).set i (some v)).set (i + 1) none
theorem zcl1_get {L : List (Option Value)} {i j : Nat} {v : Value} (h : (zcl1 L i)[j]? = some (some v)) : L[j]? = some (some v) ∧ ¬ (j + 1 = i ∧ v.category = 2) := by
  cases i with
  | zero => exact ⟨h, fun q => by omega⟩
  | succ k =>
    replace h : (match zlong (L.getD k none) with | true => L.set k none | false => L)[j]? = some (some v) := h
    cases hz : zlong (L.getD k none) with
    | true =>
      rw [hz] at h
      simp only at h
      by_cases hj : j = k
      · subst hj
        by_cases hl : j < L.length
        · rw [List.getElem?_set_self hl] at h
          cases h
        · rw [List.getElem?_eq_none (by simp; omega)] at h
          cases h
      · rw [List.getElem?_set_ne (Ne.symm hj)] at h
        exact ⟨h, fun q => hj (by omega)⟩
    | false =>
      rw [hz] at h
      simp only at h
      refine ⟨h, fun q => ?_⟩
      have e : j = k := by omega
      subst e
      rw [List.getD_eq_getElem?_getD, h] at hz
      exact zlong_cat hz q.2
theorem zst1_has {ad : Nat → Nat} {ls : Array Slot} {nL : Nat} {L : List (Option Value)} {i : Nat} {v : Value} (h : lv_has ls nL ((i, zv ad v) :: (zlv ad 0 L).filter (fun q => !(q.1 == i) && !(q.1 + 1 == i && q.2.category == 2)))) : lv_has ls nL (zlv ad 0 (zst1 L i v)) := by
  refine lv_less h fun q hq => ?_
  obtain ⟨j, w, hj, rfl⟩ := (zlv_mem _ 0 q).mp hq
  rw [Nat.zero_add]
  unfold zst1 at hj
  by_cases he : j = i
  · subst he
    by_cases hl : j < (zcl1 L j).length
    · rw [List.getElem?_set_self hl] at hj
      cases hj
      exact List.mem_cons_self
    · rw [List.getElem?_eq_none (by simp; omega)] at hj
      cases hj
  · rw [List.getElem?_set_ne (Ne.symm he)] at hj
    obtain ⟨h1, h2⟩ := zcl1_get hj
    refine List.mem_cons_of_mem _ (List.mem_filter.mpr ⟨(zlv_mem L 0 _).mpr ⟨j, w, h1, by rw [Nat.zero_add]⟩, ?_⟩)
    simp only [Bool.and_eq_true, Bool.not_eq_true', beq_eq_false_iff_ne, ne_eq, Bool.and_eq_false_iff, zv_cat]
    refine ⟨he, ?_⟩
    by_cases h3 : j + 1 = i
    · exact Or.inr (fun q => h2 ⟨h3, q⟩)
    · exact Or.inl h3
theorem zst2_has {ad : Nat → Nat} {ls : Array Slot} {nL : Nat} {L : List (Option Value)} {i : Nat} {v : Value} (h : lv_has ls nL ((i, zv ad v) :: (zlv ad 0 L).filter (fun q => !(q.1 == i) && (!(q.1 == i + 1) && !(q.1 + 1 == i && q.2.category == 2))))) : lv_has ls nL (zlv ad 0 (zst2 L i v)) := by
  refine lv_less h fun q hq => ?_
  obtain ⟨j, w, hj, rfl⟩ := (zlv_mem _ 0 q).mp hq
  rw [Nat.zero_add]
  unfold zst2 at hj
  by_cases h5 : j = i + 1
  · subst h5
    by_cases hl : i + 1 < ((zcl1 L i).set i (some v)).length
    · rw [List.getElem?_set_self hl] at hj
      cases hj
    · rw [List.getElem?_eq_none (by simp at hl ⊢; omega)] at hj
      cases hj
  · rw [List.getElem?_set_ne (Ne.symm h5)] at hj
    by_cases he : j = i
    · subst he
      by_cases hl : j < (zcl1 L j).length
      · rw [List.getElem?_set_self hl] at hj
        cases hj
        exact List.mem_cons_self
      · rw [List.getElem?_eq_none (by simp; omega)] at hj
        cases hj
    · rw [List.getElem?_set_ne (Ne.symm he)] at hj
      obtain ⟨h1, h2⟩ := zcl1_get hj
      refine List.mem_cons_of_mem _ (List.mem_filter.mpr ⟨(zlv_mem L 0 _).mpr ⟨j, w, h1, by rw [Nat.zero_add]⟩, ?_⟩)
      simp only [Bool.and_eq_true, Bool.not_eq_true', beq_eq_false_iff_ne, ne_eq, Bool.and_eq_false_iff, zv_cat]
      refine ⟨he, h5, ?_⟩
      by_cases h3 : j + 1 = i
      · exact Or.inr (fun q => h2 ⟨h3, q⟩)
      · exact Or.inl h3
abbrev zMeth : Type := MethodName × ByteArray × Nat × Option FieldType × Nat × Nat × Nat × Nat
def zy (k : zMeth) : MethodName := k.1
def zb (k : zMeth) : ByteArray := k.2.1
def zl (k : zMeth) : Nat := k.2.2.1
def zr (k : zMeth) : Option FieldType := k.2.2.2.1
def zo (k : zMeth) : Nat := k.2.2.2.2.1
def zna (k : zMeth) : Nat := k.2.2.2.2.2.1
def zF (k : zMeth) : Nat := k.2.2.2.2.2.2.1
def zLo (k : zMeth) : Nat := k.2.2.2.2.2.2.2
def zwk (k : zMeth) : List Cond := Cond.code (zy k) (zb k) (zl k) (zr k) :: z_tbl
def zMd (k : zMeth) : Prop := Cond.code (zy k) (zb k) (zl k) (zr k) ∈ z_tbl ∧ (zy k).cls = zR (zo k) ∧ zo k < 19 ∧ (zy k).cls ≠ "java/lang/invoke/MethodHandle" ∧ (zy k).cls ≠ "java/lang/invoke/VarHandle" ∧ (parseMethodDescriptor (zy k).desc).map (fun d => d.parameters.length) = some (zna k) ∧ plainName (zy k).cls = true
theorem zwk_good {k : zMeth} (h : zMd k) : GoodIn z_tbl (zwk k) := by
  intro w hw
  rcases List.mem_cons.mp hw with rfl | hw
  · exact z_good _ h.1
  · exact z_good w hw
def zK (i : Nat) : Nat := 1000000 + i
def zsN : Nat := 4
def zsL : List Nat := [6, 4, 3, 4]
def zsB : List (List Int32) := [[112, 108, 97, 99, 101, 115], [109, 111, 118, 101], [108, 101, 116], [115, 111, 114, 116]]
def zsR : List (String × Nat × String × Nat) := [("TroupeSums$Reader", 47, "places", 0), ("TroupeSums$Reader", 69, "move", 1), ("TroupeSums$Reader", 96, "let", 2), ("TroupeSums$Tokens", 85, "places", 0), ("TroupeSums$Tokens", 91, "move", 1), ("TroupeSums$Tokens", 93, "let", 2), ("TroupeSums$Tokens", 95, "sort", 3), ("TroupeSums$Reader", 167, "sort", 3)]
def zTx (ad adV : Nat → Nat) (U : State) (H : Heap) : Prop := vk_S zsN zsL zsB (fun i => ad (zK i)) (fun i => ad (zK (200 + i))) (fun q => ad 0 ≤ q) U H ∧ va_Z "java/lang/String" "COMPACT_STRINGS" "Z" (.int 1) (fun q => ad 0 ≤ q) U H ∧ (va_Z "jdk/internal/util/Preconditions" "SIOOBE_FORMATTER" "Ljava/util/function/BiFunction;" .null (fun q => ad 0 ≤ q) U H ∨ va_Z "jdk/internal/util/Preconditions" "SIOOBE_FORMATTER" "Ljava/util/function/BiFunction;" (.ref (ad (zK 100))) (fun q => ad 0 ≤ q) U H)
def zEnv (D : va_G) (cI cJ : ClassId) (ad adV : Nat → Nat) (U : State) (H : Heap) : Prop := va_K D zcl [(cI, .int), (cJ, .long)] U ∧ (∀ w ∈ z_nst, va_Nw w U) ∧ (∀ q ∈ zsR, vk_R q.1 q.2.1 q.2.2.1 (ad (zK q.2.2.2)) U) ∧ zTx ad adV U H
theorem zNst_warm {s U : State} (hW : s.WarmedH U.vm) (h : ∀ w ∈ z_nst, va_Nw w s) : ∀ w ∈ z_nst, va_Nw w U := by
  intro w hw
  have h1 := h w hw
  have h2 := (List.mem_filter.mp hw).2
  cases w <;> first | (cases h2; done) | exact va_Nw.warmF hW h1 | exact va_Nw.warmM hW h1
theorem zNst_same {s U : State} (hv : s.vm = U.vm) (h : ∀ w ∈ z_nst, va_Nw w s) : ∀ w ∈ z_nst, va_Nw w U := by
  intro w hw
  have h1 := h w hw
  have h2 := (List.mem_filter.mp hw).2
  cases w <;> first | (cases h2; done) | exact va_Nw.same rfl hv h1
theorem zEnv_warm {D : va_G} {cI cJ : ClassId} {ad adV : Nat → Nat} {s U : State} {H : Heap} {locs : List Loc} (hW : s.WarmedH U.vm) (hS : va_S (fun q => ad 0 ≤ q) s.heap H locs) (hU : U.heap = H) (h : zEnv D cI cJ ad adV s s.heap) : zEnv D cI cJ ad adV U U.heap := by
  obtain ⟨h1, h2, h3, h4, h5, h6⟩ := h
  rw [hU]
  exact ⟨va_K.moved hW.alike h1, zNst_warm hW h2, fun q hq => (h3 q hq).warm hW, (h4.moved hW.alike).kept hS.2.1, (h5.moved hW.alike).kept hS.2.1, h6.imp (fun h => (h.moved hW.alike).kept hS.2.1) (fun h => (h.moved hW.alike).kept hS.2.1)⟩
theorem zEnv_same {D : va_G} {cI cJ : ClassId} {ad adV : Nat → Nat} {s U : State} {H : Heap} (hv : U.vm = s.vm) (h : zEnv D cI cJ ad adV s H) : zEnv D cI cJ ad adV U H := by
  obtain ⟨h1, h2, h3, h4, h5, h6⟩ := h
  have hal : s.vm.Alike U.vm := by rw [hv]; exact Vm.Alike.refl _
  exact ⟨va_K.moved hal h1, zNst_same hv.symm h2, fun q hq => (h3 q hq).same hv, h4.moved hal, h5.moved hal, h6.imp (fun h => h.moved hal) (fun h => h.moved hal)⟩
def zI (D : va_G) (cI cJ : ClassId) (ad adV : Nat → Nat) (M : zMem) (s : State) (H : Heap) (locs : List Loc) : Prop := zEnv D cI cJ ad adV s s.heap ∧ ad 0 ≤ s.heap.size ∧ va_P D zcl (zws cI cJ ad M) H ∧ va_S (fun q => ad 0 ≤ q) s.heap H locs ∧ H.size = ad 0 + zn M ∧ zOK ad M
def zIe (D : va_G) (cI cJ : ClassId) (ad adV : Nat → Nat) (M : zMem) (U : State) : Prop := zEnv D cI cJ ad adV U U.heap ∧ va_P D zcl (zws cI cJ ad M) U.heap ∧ U.heap.size = ad 0 + zn M ∧ zOK ad M
def zCtx (p : Program) (R : Room) (s : State) (m : MethodId) (args : Array Value) (meth : Method) (c : Code) (k : zMeth) : Prop :=
  p.tables.exec = Jvm.exec ∧ c.code = zb k ∧ c.maxLocals = zl k ∧ s.vm.findClass (zR (zo k)) = some m.cls ∧ (∀ w ∈ z_tbl, w.before args s = true) ∧ meth.sig.returnType = zr k ∧ meth.locks = false ∧ meth.name = (zy k).name ∧ zF k ≤ R.frames ∧ zLo k ≤ R.locals
def zRet (k : zMeth) (pc : Nat) (r : Option Value) : Prop := (∃ (v : Int32) (ty : FieldType), r = some (.int v) ∧ decode (zb k) pc = .ok (.ireturn, 1) ∧ zr k = some ty ∧ narrow ty (.int v) = .int v) ∨ (∃ v : Int64, r = some (.long v) ∧ decode (zb k) pc = .ok (.lreturn, 1) ∧ zr k = some .long) ∨ (r = none ∧ decode (zb k) pc = .ok (.return_, 1) ∧ zr k = none)
def zW (l : Launch) (k : zMeth) (X : Nat × Nat) (M : zMem) (pc : Nat) (L : List (Option Value)) (S : List Value) (Q : Option Value → zMem → Prop) : Prop :=
  ∀ (p : Program) (e : Env) (R : Room) (s : State) (m : MethodId) (args : Array Value) (below : List Frame) (meth : Method) (c : Code) (D : va_G) (cI cJ : ClassId) (ad adV : Nat → Nat) (n0 w0 : Nat) (H : Heap) (locs : List Loc) (ls : Array Slot) (Qm : State → Prop),
    zCtx p R s m args meth c k → zI D cI cJ ad adV M s H locs → lv_has ls (zl k) (zlv ad 0 L) → n0 ≤ zn M ∧ zn M ≤ X.1 ∧ X.1 ≤ n0 + R.cells ∧ w0 ≤ zw M ∧ zw M ≤ X.2 ∧ X.2 ≤ w0 + R.slots →
    (∀ (r : Option Value) (M' : zMem) (H' : Heap) (locs' : List Loc) (pc' : Nat) (ls' : Array Slot), Q r M' → zRet k pc' r → zI D cI cJ ad adV M' s H' locs' → zn M ≤ zn M' ∧ zn M' ≤ X.1 ∧ zw M ≤ zw M' ∧ zw M' ≤ X.2 → W p l e R s m args below meth c H' locs' (zn M' - n0) (zw M' - w0) Qm (F0 m pc' ls' (r.toList.map (zv ad)))) →
    W p l e R s m args below meth c H locs (zn M - n0) (zw M - w0) Qm (F0 m pc ls (S.map (zv ad)))
def zQc (D : va_G) (cI cJ : ClassId) (ad : Nat → Nat) (M : zMem) (mc ms : Nat) (Q : Option Value → zMem → Prop) : Array Value → State → Outcome → State → Prop := fun _ st oc t =>
  (∃ (r : Option Value) (M' : zMem), oc = .returned (r.map (zv ad)) ∧ Q r M' ∧ va_P D zcl (zws cI cJ ad M') t.heap ∧ t.heap.size = ad 0 + zn M' ∧ zOK ad M' ∧ zn M' = zn M + mc ∧ zw M' = zw M + ms) ∧ va_F (fun q => ad 0 ≤ q) st t
def zC (l : Launch) (k : zMeth) (mc ms : Nat) (vs : List Value) (M : zMem) (Q : Option Value → zMem → Prop) : Prop :=
  ∀ (D : va_G) (cI cJ : ClassId) (ad adV : Nat → Nat), Met l (zy k) (zwk k) ({ frames := zF k, cells := mc, slots := ms, locals := zLo k }) (va_Pc (vs.map (zv ad)) (zIe D cI cJ ad adV M)) (zQc D cI cJ ad M mc ms Q) mc ms (fun q => ad 0 ≤ q)
theorem zIe_blind {D : va_G} {cI cJ : ClassId} {ad adV : Nat → Nat} {M : zMem} {av : List Value} : FrameBlind (va_Pc av (zIe D cI cJ ad adV M)) := by
  intro a U g mk q
  obtain ⟨q0, q1, q2⟩ := q
  exact ⟨q0, (zEnv_same (s := U) (U := U.calling g mk a) (H := U.heap) rfl q1 : zEnv D cI cJ ad adV (U.calling g mk a) U.heap), q2⟩
theorem zIe_of {D : va_G} {cI cJ : ClassId} {ad adV : Nat → Nat} {M : zMem} {s : State} {H : Heap} {locs : List Loc} (I : zI D cI cJ ad adV M s H locs) {U : State} (hU : U.heap = H) (hW : s.WarmedH U.vm) : zIe D cI cJ ad adV M U := by
  obtain ⟨h1, h2, h3, h4, h5, h6⟩ := I
  exact ⟨zEnv_warm hW h4 hU h1, by rw [hU]; exact h3, by rw [hU]; exact h5, h6⟩
theorem zw_iadd {l : Launch} {k : zMeth} {X : Nat × Nat} {M : zMem} {pc : Nat} {L : List (Option Value)} {S : List Value} {Q : Option Value → zMem → Prop} {x y : Int32} (hd : decode (zb k) pc = .ok (.iadd, 1)) (kk : zW l k X M (pc + 1) L (.int (x + y) :: S) Q) : zW l k X M pc L (.int y :: .int x :: S) Q := by
  intro p e R s m args below meth c D cI cJ ad adV n0 w0 H locs ls Qm C I hl hc hf
  exact lv_iadd C.1 C.2.1 hd (kk p e R s m args below meth c D cI cJ ad adV n0 w0 H locs ls Qm C I hl hc hf)
theorem zw_isub {l : Launch} {k : zMeth} {X : Nat × Nat} {M : zMem} {pc : Nat} {L : List (Option Value)} {S : List Value} {Q : Option Value → zMem → Prop} {x y : Int32} (hd : decode (zb k) pc = .ok (.isub, 1)) (kk : zW l k X M (pc + 1) L (.int (x - y) :: S) Q) : zW l k X M pc L (.int y :: .int x :: S) Q := by
  intro p e R s m args below meth c D cI cJ ad adV n0 w0 H locs ls Qm C I hl hc hf
  exact lv_isub C.1 C.2.1 hd (kk p e R s m args below meth c D cI cJ ad adV n0 w0 H locs ls Qm C I hl hc hf)
theorem zw_imul {l : Launch} {k : zMeth} {X : Nat × Nat} {M : zMem} {pc : Nat} {L : List (Option Value)} {S : List Value} {Q : Option Value → zMem → Prop} {x y : Int32} (hd : decode (zb k) pc = .ok (.imul, 1)) (kk : zW l k X M (pc + 1) L (.int (x * y) :: S) Q) : zW l k X M pc L (.int y :: .int x :: S) Q := by
  intro p e R s m args below meth c D cI cJ ad adV n0 w0 H locs ls Qm C I hl hc hf
  exact lv_imul C.1 C.2.1 hd (kk p e R s m args below meth c D cI cJ ad adV n0 w0 H locs ls Qm C I hl hc hf)
theorem zw_iand {l : Launch} {k : zMeth} {X : Nat × Nat} {M : zMem} {pc : Nat} {L : List (Option Value)} {S : List Value} {Q : Option Value → zMem → Prop} {x y : Int32} (hd : decode (zb k) pc = .ok (.iand, 1)) (kk : zW l k X M (pc + 1) L (.int (x &&& y) :: S) Q) : zW l k X M pc L (.int y :: .int x :: S) Q := by
  intro p e R s m args below meth c D cI cJ ad adV n0 w0 H locs ls Qm C I hl hc hf
  exact lv_iand C.1 C.2.1 hd (kk p e R s m args below meth c D cI cJ ad adV n0 w0 H locs ls Qm C I hl hc hf)
theorem zw_ior {l : Launch} {k : zMeth} {X : Nat × Nat} {M : zMem} {pc : Nat} {L : List (Option Value)} {S : List Value} {Q : Option Value → zMem → Prop} {x y : Int32} (hd : decode (zb k) pc = .ok (.ior, 1)) (kk : zW l k X M (pc + 1) L (.int (x ||| y) :: S) Q) : zW l k X M pc L (.int y :: .int x :: S) Q := by
  intro p e R s m args below meth c D cI cJ ad adV n0 w0 H locs ls Qm C I hl hc hf
  exact lv_ior C.1 C.2.1 hd (kk p e R s m args below meth c D cI cJ ad adV n0 w0 H locs ls Qm C I hl hc hf)
theorem zw_ixor {l : Launch} {k : zMeth} {X : Nat × Nat} {M : zMem} {pc : Nat} {L : List (Option Value)} {S : List Value} {Q : Option Value → zMem → Prop} {x y : Int32} (hd : decode (zb k) pc = .ok (.ixor, 1)) (kk : zW l k X M (pc + 1) L (.int (x ^^^ y) :: S) Q) : zW l k X M pc L (.int y :: .int x :: S) Q := by
  intro p e R s m args below meth c D cI cJ ad adV n0 w0 H locs ls Qm C I hl hc hf
  exact lv_ixor C.1 C.2.1 hd (kk p e R s m args below meth c D cI cJ ad adV n0 w0 H locs ls Qm C I hl hc hf)
theorem zw_ladd {l : Launch} {k : zMeth} {X : Nat × Nat} {M : zMem} {pc : Nat} {L : List (Option Value)} {S : List Value} {Q : Option Value → zMem → Prop} {x y : Int64} (hd : decode (zb k) pc = .ok (.ladd, 1)) (kk : zW l k X M (pc + 1) L (.long (x + y) :: S) Q) : zW l k X M pc L (.long y :: .long x :: S) Q := by
  intro p e R s m args below meth c D cI cJ ad adV n0 w0 H locs ls Qm C I hl hc hf
  exact lv_ladd C.1 C.2.1 hd (kk p e R s m args below meth c D cI cJ ad adV n0 w0 H locs ls Qm C I hl hc hf)
theorem zw_lsub {l : Launch} {k : zMeth} {X : Nat × Nat} {M : zMem} {pc : Nat} {L : List (Option Value)} {S : List Value} {Q : Option Value → zMem → Prop} {x y : Int64} (hd : decode (zb k) pc = .ok (.lsub, 1)) (kk : zW l k X M (pc + 1) L (.long (x - y) :: S) Q) : zW l k X M pc L (.long y :: .long x :: S) Q := by
  intro p e R s m args below meth c D cI cJ ad adV n0 w0 H locs ls Qm C I hl hc hf
  exact lv_lsub C.1 C.2.1 hd (kk p e R s m args below meth c D cI cJ ad adV n0 w0 H locs ls Qm C I hl hc hf)
theorem zw_lmul {l : Launch} {k : zMeth} {X : Nat × Nat} {M : zMem} {pc : Nat} {L : List (Option Value)} {S : List Value} {Q : Option Value → zMem → Prop} {x y : Int64} (hd : decode (zb k) pc = .ok (.lmul, 1)) (kk : zW l k X M (pc + 1) L (.long (x * y) :: S) Q) : zW l k X M pc L (.long y :: .long x :: S) Q := by
  intro p e R s m args below meth c D cI cJ ad adV n0 w0 H locs ls Qm C I hl hc hf
  exact lv_lmul C.1 C.2.1 hd (kk p e R s m args below meth c D cI cJ ad adV n0 w0 H locs ls Qm C I hl hc hf)
theorem zw_lor {l : Launch} {k : zMeth} {X : Nat × Nat} {M : zMem} {pc : Nat} {L : List (Option Value)} {S : List Value} {Q : Option Value → zMem → Prop} {x y : Int64} (hd : decode (zb k) pc = .ok (.lor, 1)) (kk : zW l k X M (pc + 1) L (.long (x ||| y) :: S) Q) : zW l k X M pc L (.long y :: .long x :: S) Q := by
  intro p e R s m args below meth c D cI cJ ad adV n0 w0 H locs ls Qm C I hl hc hf
  exact lv_lor C.1 C.2.1 hd (kk p e R s m args below meth c D cI cJ ad adV n0 w0 H locs ls Qm C I hl hc hf)
theorem zw_idiv {l : Launch} {k : zMeth} {X : Nat × Nat} {M : zMem} {pc : Nat} {L : List (Option Value)} {S : List Value} {Q : Option Value → zMem → Prop} {x y : Int32} (hne : ¬ y = 0) (hd : decode (zb k) pc = .ok (.idiv, 1)) (kk : zW l k X M (pc + 1) L (.int (x / y) :: S) Q) : zW l k X M pc L (.int y :: .int x :: S) Q := by
  intro p e R s m args below meth c D cI cJ ad adV n0 w0 H locs ls Qm C I hl hc hf
  exact lv_idiv C.1 C.2.1 hd hne (kk p e R s m args below meth c D cI cJ ad adV n0 w0 H locs ls Qm C I hl hc hf)
theorem zw_irem {l : Launch} {k : zMeth} {X : Nat × Nat} {M : zMem} {pc : Nat} {L : List (Option Value)} {S : List Value} {Q : Option Value → zMem → Prop} {x y : Int32} (hne : ¬ y = 0) (hd : decode (zb k) pc = .ok (.irem, 1)) (kk : zW l k X M (pc + 1) L (.int (x - x / y * y) :: S) Q) : zW l k X M pc L (.int y :: .int x :: S) Q := by
  intro p e R s m args below meth c D cI cJ ad adV n0 w0 H locs ls Qm C I hl hc hf
  exact lv_irem C.1 C.2.1 hd hne (kk p e R s m args below meth c D cI cJ ad adV n0 w0 H locs ls Qm C I hl hc hf)
theorem zw_ldiv {l : Launch} {k : zMeth} {X : Nat × Nat} {M : zMem} {pc : Nat} {L : List (Option Value)} {S : List Value} {Q : Option Value → zMem → Prop} {x y : Int64} (hne : ¬ y = 0) (hd : decode (zb k) pc = .ok (.ldiv, 1)) (kk : zW l k X M (pc + 1) L (.long (x / y) :: S) Q) : zW l k X M pc L (.long y :: .long x :: S) Q := by
  intro p e R s m args below meth c D cI cJ ad adV n0 w0 H locs ls Qm C I hl hc hf
  exact lv_ldiv C.1 C.2.1 hd hne (kk p e R s m args below meth c D cI cJ ad adV n0 w0 H locs ls Qm C I hl hc hf)
theorem zw_lrem {l : Launch} {k : zMeth} {X : Nat × Nat} {M : zMem} {pc : Nat} {L : List (Option Value)} {S : List Value} {Q : Option Value → zMem → Prop} {x y : Int64} (hne : ¬ y = 0) (hd : decode (zb k) pc = .ok (.lrem, 1)) (kk : zW l k X M (pc + 1) L (.long (x - x / y * y) :: S) Q) : zW l k X M pc L (.long y :: .long x :: S) Q := by
  intro p e R s m args below meth c D cI cJ ad adV n0 w0 H locs ls Qm C I hl hc hf
  exact lv_lrem C.1 C.2.1 hd hne (kk p e R s m args below meth c D cI cJ ad adV n0 w0 H locs ls Qm C I hl hc hf)
theorem zw_ineg {l : Launch} {k : zMeth} {X : Nat × Nat} {M : zMem} {pc : Nat} {L : List (Option Value)} {S : List Value} {Q : Option Value → zMem → Prop} {x : Int32} (hd : decode (zb k) pc = .ok (.ineg, 1)) (kk : zW l k X M (pc + 1) L (.int (-x) :: S) Q) : zW l k X M pc L (.int x :: S) Q := by
  intro p e R s m args below meth c D cI cJ ad adV n0 w0 H locs ls Qm C I hl hc hf
  exact lv_ineg C.1 C.2.1 hd (kk p e R s m args below meth c D cI cJ ad adV n0 w0 H locs ls Qm C I hl hc hf)
theorem zw_lneg {l : Launch} {k : zMeth} {X : Nat × Nat} {M : zMem} {pc : Nat} {L : List (Option Value)} {S : List Value} {Q : Option Value → zMem → Prop} {x : Int64} (hd : decode (zb k) pc = .ok (.lneg, 1)) (kk : zW l k X M (pc + 1) L (.long (-x) :: S) Q) : zW l k X M pc L (.long x :: S) Q := by
  intro p e R s m args below meth c D cI cJ ad adV n0 w0 H locs ls Qm C I hl hc hf
  exact lv_lneg C.1 C.2.1 hd (kk p e R s m args below meth c D cI cJ ad adV n0 w0 H locs ls Qm C I hl hc hf)
theorem zw_i2l {l : Launch} {k : zMeth} {X : Nat × Nat} {M : zMem} {pc : Nat} {L : List (Option Value)} {S : List Value} {Q : Option Value → zMem → Prop} {x : Int32} (hd : decode (zb k) pc = .ok (.i2l, 1)) (kk : zW l k X M (pc + 1) L (.long x.toInt64 :: S) Q) : zW l k X M pc L (.int x :: S) Q := by
  intro p e R s m args below meth c D cI cJ ad adV n0 w0 H locs ls Qm C I hl hc hf
  exact lv_i2l C.1 C.2.1 hd rfl (kk p e R s m args below meth c D cI cJ ad adV n0 w0 H locs ls Qm C I hl hc hf)
theorem zw_l2i {l : Launch} {k : zMeth} {X : Nat × Nat} {M : zMem} {pc : Nat} {L : List (Option Value)} {S : List Value} {Q : Option Value → zMem → Prop} {x : Int64} (hd : decode (zb k) pc = .ok (.l2i, 1)) (kk : zW l k X M (pc + 1) L (.int x.toInt32 :: S) Q) : zW l k X M pc L (.long x :: S) Q := by
  intro p e R s m args below meth c D cI cJ ad adV n0 w0 H locs ls Qm C I hl hc hf
  exact lv_l2i C.1 C.2.1 hd rfl (kk p e R s m args below meth c D cI cJ ad adV n0 w0 H locs ls Qm C I hl hc hf)
theorem zw_iushr {l : Launch} {k : zMeth} {X : Nat × Nat} {M : zMem} {pc : Nat} {L : List (Option Value)} {S : List Value} {Q : Option Value → zMem → Prop} {x y : Int32} (hd : decode (zb k) pc = .ok (.iushr, 1)) (kk : zW l k X M (pc + 1) L (.int (x.toUInt32 >>> (y.toUInt32 &&& Int32.toUInt32 31)).toInt32 :: S) Q) : zW l k X M pc L (.int y :: .int x :: S) Q := by
  intro p e R s m args below meth c D cI cJ ad adV n0 w0 H locs ls Qm C I hl hc hf
  exact lv_iushr C.1 C.2.1 hd rfl (kk p e R s m args below meth c D cI cJ ad adV n0 w0 H locs ls Qm C I hl hc hf)
theorem zw_lshl {l : Launch} {k : zMeth} {X : Nat × Nat} {M : zMem} {pc : Nat} {L : List (Option Value)} {S : List Value} {Q : Option Value → zMem → Prop} {x : Int64} {y : Int32} (hd : decode (zb k) pc = .ok (.lshl, 1)) (kk : zW l k X M (pc + 1) L (.long (x <<< (y.toInt64 &&& 63)) :: S) Q) : zW l k X M pc L (.int y :: .long x :: S) Q := by
  intro p e R s m args below meth c D cI cJ ad adV n0 w0 H locs ls Qm C I hl hc hf
  exact lv_lshl C.1 C.2.1 hd rfl (kk p e R s m args below meth c D cI cJ ad adV n0 w0 H locs ls Qm C I hl hc hf)
theorem zw_iconst {l : Launch} {k : zMeth} {X : Nat × Nat} {M : zMem} {pc : Nat} {L : List (Option Value)} {S : List Value} {Q : Option Value → zMem → Prop} {n : Int} {v : Int32} (hv : Int32.ofInt n = v) (hd : decode (zb k) pc = .ok (.iconst n, 1)) (kk : zW l k X M (pc + 1) L (.int v :: S) Q) : zW l k X M pc L (S) Q := by
  intro p e R s m args below meth c D cI cJ ad adV n0 w0 H locs ls Qm C I hl hc hf
  exact lv_iconst C.1 C.2.1 hd hv (kk p e R s m args below meth c D cI cJ ad adV n0 w0 H locs ls Qm C I hl hc hf)
theorem zw_bipush {l : Launch} {k : zMeth} {X : Nat × Nat} {M : zMem} {pc : Nat} {L : List (Option Value)} {S : List Value} {Q : Option Value → zMem → Prop} {n : Int} {v : Int32} (hv : (Int8.ofInt n).toInt32 = v) (hd : decode (zb k) pc = .ok (.bipush n, 2)) (kk : zW l k X M (pc + 2) L (.int v :: S) Q) : zW l k X M pc L (S) Q := by
  intro p e R s m args below meth c D cI cJ ad adV n0 w0 H locs ls Qm C I hl hc hf
  exact lv_bipush C.1 C.2.1 hd hv (kk p e R s m args below meth c D cI cJ ad adV n0 w0 H locs ls Qm C I hl hc hf)
theorem zw_sipush {l : Launch} {k : zMeth} {X : Nat × Nat} {M : zMem} {pc : Nat} {L : List (Option Value)} {S : List Value} {Q : Option Value → zMem → Prop} {n : Int} {v : Int32} (hv : (Int16.ofInt n).toInt32 = v) (hd : decode (zb k) pc = .ok (.sipush n, 3)) (kk : zW l k X M (pc + 3) L (.int v :: S) Q) : zW l k X M pc L (S) Q := by
  intro p e R s m args below meth c D cI cJ ad adV n0 w0 H locs ls Qm C I hl hc hf
  exact lv_sipush C.1 C.2.1 hd hv (kk p e R s m args below meth c D cI cJ ad adV n0 w0 H locs ls Qm C I hl hc hf)
theorem zw_lconst {l : Launch} {k : zMeth} {X : Nat × Nat} {M : zMem} {pc : Nat} {L : List (Option Value)} {S : List Value} {Q : Option Value → zMem → Prop} {n : Fin 2} {v : Int64} (hv : Int64.ofNat (n : Nat) = v) (hd : decode (zb k) pc = .ok (.lconst n, 1)) (kk : zW l k X M (pc + 1) L (.long v :: S) Q) : zW l k X M pc L (S) Q := by
  intro p e R s m args below meth c D cI cJ ad adV n0 w0 H locs ls Qm C I hl hc hf
  exact lv_lconst C.1 C.2.1 hd hv (kk p e R s m args below meth c D cI cJ ad adV n0 w0 H locs ls Qm C I hl hc hf)
theorem zw_ldc {l : Launch} {k : zMeth} {X : Nat × Nat} {M : zMem} {pc : Nat} {L : List (Option Value)} {S : List Value} {Q : Option Value → zMem → Prop} {ix : Nat} {v : Int32} (hw : Cond.constant (zR (zo k)) ix v ∈ z_tbl) (hd : decode (zb k) pc = .ok (.ldc ix, 2)) (kk : zW l k X M (pc + 2) L (.int v :: S) Q) : zW l k X M pc L S Q := by
  intro p e R s m args below meth c D cI cJ ad adV n0 w0 H locs ls Qm C I hl hc hf
  exact lv_ldc C.1 C.2.1 C.2.2.2.1 (C.2.2.2.2.1 _ hw) hd (kk p e R s m args below meth c D cI cJ ad adV n0 w0 H locs ls Qm C I hl hc hf)
theorem zw_ldcw {l : Launch} {k : zMeth} {X : Nat × Nat} {M : zMem} {pc : Nat} {L : List (Option Value)} {S : List Value} {Q : Option Value → zMem → Prop} {ix : Nat} {v : Int32} (hw : Cond.constant (zR (zo k)) ix v ∈ z_tbl) (hd : decode (zb k) pc = .ok (.ldc_w ix, 3)) (kk : zW l k X M (pc + 3) L (.int v :: S) Q) : zW l k X M pc L S Q := by
  intro p e R s m args below meth c D cI cJ ad adV n0 w0 H locs ls Qm C I hl hc hf
  exact lv_ldcw C.1 C.2.1 C.2.2.2.1 (C.2.2.2.2.1 _ hw) hd (kk p e R s m args below meth c D cI cJ ad adV n0 w0 H locs ls Qm C I hl hc hf)
theorem zw_ldc2 {l : Launch} {k : zMeth} {X : Nat × Nat} {M : zMem} {pc : Nat} {L : List (Option Value)} {S : List Value} {Q : Option Value → zMem → Prop} {ix : Nat} {v : Int64} (hw : Cond.constantLong (zR (zo k)) ix v ∈ z_tbl) (hd : decode (zb k) pc = .ok (.ldc2_w ix, 3)) (kk : zW l k X M (pc + 3) L (.long v :: S) Q) : zW l k X M pc L S Q := by
  intro p e R s m args below meth c D cI cJ ad adV n0 w0 H locs ls Qm C I hl hc hf
  exact lv_ldc2 C.1 C.2.1 C.2.2.2.1 (C.2.2.2.2.1 _ hw) hd (kk p e R s m args below meth c D cI cJ ad adV n0 w0 H locs ls Qm C I hl hc hf)
theorem zw_ldcs {l : Launch} {k : zMeth} {X : Nat × Nat} {M : zMem} {pc : Nat} {L : List (Option Value)} {S : List Value} {Q : Option Value → zMem → Prop} {ix i : Nat} {tx : String} (hw : (zR (zo k), ix, tx, i) ∈ zsR) (hd : decode (zb k) pc = .ok (.ldc ix, 2)) (kk : zW l k X M (pc + 2) L (.ref (zK i) :: S) Q) : zW l k X M pc L S Q := by
  intro p e R s m args below meth c D cI cJ ad adV n0 w0 H locs ls Qm C I hl hc hf
  have h1 : vk_R (zR (zo k)) ix tx (ad (zK i)) s := I.1.2.2.1 (zR (zo k), ix, tx, i) hw
  exact va_ldcS (q := ad (zK i)) C.1 C.2.1 C.2.2.2.1 h1 hd (kk p e R s m args below meth c D cI cJ ad adV n0 w0 H locs ls Qm C I hl hc hf)
theorem zw_iload_n {l : Launch} {k : zMeth} {X : Nat × Nat} {M : zMem} {pc : Nat} {L : List (Option Value)} {S : List Value} {Q : Option Value → zMem → Prop} {n : Fin 4} {x : Int32} (hL : L[(n : Nat)]? = some (some (.int x))) (hd : decode (zb k) pc = .ok (.iload_n n, 1)) (kk : zW l k X M (pc + 1) L (.int x :: S) Q) : zW l k X M pc L (S) Q := by
  intro p e R s m args below meth c D cI cJ ad adV n0 w0 H locs ls Qm C I hl hc hf
  exact lv_iload_n C.1 C.2.1 hd rfl (zlv_at hl hL) (kk p e R s m args below meth c D cI cJ ad adV n0 w0 H locs ls Qm C I hl hc hf)
theorem zw_iload {l : Launch} {k : zMeth} {X : Nat × Nat} {M : zMem} {pc : Nat} {L : List (Option Value)} {S : List Value} {Q : Option Value → zMem → Prop} {i : Nat} {x : Int32} (hL : L[i]? = some (some (.int x))) (hd : decode (zb k) pc = .ok (.iload i, 2)) (kk : zW l k X M (pc + 2) L (.int x :: S) Q) : zW l k X M pc L (S) Q := by
  intro p e R s m args below meth c D cI cJ ad adV n0 w0 H locs ls Qm C I hl hc hf
  exact lv_iload C.1 C.2.1 hd (zlv_at hl hL) (kk p e R s m args below meth c D cI cJ ad adV n0 w0 H locs ls Qm C I hl hc hf)
theorem zw_lload_n {l : Launch} {k : zMeth} {X : Nat × Nat} {M : zMem} {pc : Nat} {L : List (Option Value)} {S : List Value} {Q : Option Value → zMem → Prop} {n : Fin 4} {x : Int64} (hL : L[(n : Nat)]? = some (some (.long x))) (hd : decode (zb k) pc = .ok (.lload_n n, 1)) (kk : zW l k X M (pc + 1) L (.long x :: S) Q) : zW l k X M pc L (S) Q := by
  intro p e R s m args below meth c D cI cJ ad adV n0 w0 H locs ls Qm C I hl hc hf
  exact lv_lload_n C.1 C.2.1 hd rfl (zlv_at hl hL) (kk p e R s m args below meth c D cI cJ ad adV n0 w0 H locs ls Qm C I hl hc hf)
theorem zw_lload {l : Launch} {k : zMeth} {X : Nat × Nat} {M : zMem} {pc : Nat} {L : List (Option Value)} {S : List Value} {Q : Option Value → zMem → Prop} {i : Nat} {x : Int64} (hL : L[i]? = some (some (.long x))) (hd : decode (zb k) pc = .ok (.lload i, 2)) (kk : zW l k X M (pc + 2) L (.long x :: S) Q) : zW l k X M pc L (S) Q := by
  intro p e R s m args below meth c D cI cJ ad adV n0 w0 H locs ls Qm C I hl hc hf
  exact lv_lload C.1 C.2.1 hd (zlv_at hl hL) (kk p e R s m args below meth c D cI cJ ad adV n0 w0 H locs ls Qm C I hl hc hf)
theorem zw_aload_n {l : Launch} {k : zMeth} {X : Nat × Nat} {M : zMem} {pc : Nat} {L : List (Option Value)} {S : List Value} {Q : Option Value → zMem → Prop} {n : Fin 4} {x : Nat} (hL : L[(n : Nat)]? = some (some (.ref x))) (hd : decode (zb k) pc = .ok (.aload_n n, 1)) (kk : zW l k X M (pc + 1) L (.ref x :: S) Q) : zW l k X M pc L (S) Q := by
  intro p e R s m args below meth c D cI cJ ad adV n0 w0 H locs ls Qm C I hl hc hf
  exact lv_aload_n C.1 C.2.1 hd rfl (zlv_at hl hL) (kk p e R s m args below meth c D cI cJ ad adV n0 w0 H locs ls Qm C I hl hc hf)
theorem zw_aload {l : Launch} {k : zMeth} {X : Nat × Nat} {M : zMem} {pc : Nat} {L : List (Option Value)} {S : List Value} {Q : Option Value → zMem → Prop} {i : Nat} {x : Nat} (hL : L[i]? = some (some (.ref x))) (hd : decode (zb k) pc = .ok (.aload i, 2)) (kk : zW l k X M (pc + 2) L (.ref x :: S) Q) : zW l k X M pc L (S) Q := by
  intro p e R s m args below meth c D cI cJ ad adV n0 w0 H locs ls Qm C I hl hc hf
  exact lv_aload C.1 C.2.1 hd (zlv_at hl hL) (kk p e R s m args below meth c D cI cJ ad adV n0 w0 H locs ls Qm C I hl hc hf)
theorem zw_istore_n {l : Launch} {k : zMeth} {X : Nat × Nat} {M : zMem} {pc : Nat} {L : List (Option Value)} {S : List Value} {Q : Option Value → zMem → Prop} {n : Fin 4} {i : Nat} {x : Int32} {L2 : List (Option Value)} (hi : (n : Nat) = i) (hn : i < zl k) (h2 : zst1 L i (.int x) = L2) (hd : decode (zb k) pc = .ok (.istore_n n, 1)) (kk : zW l k X M (pc + 1) L2 S Q) : zW l k X M pc L (.int x :: S) Q := by
  intro p e R s m args below meth c D cI cJ ad adV n0 w0 H locs ls Qm C I hl hc hf
  subst h2
  exact lv_istore_n C.1 C.2.1 hd hi hl hn rfl (fun ls2 hl2 => kk p e R s m args below meth c D cI cJ ad adV n0 w0 H locs ls2 Qm C I (zst1_has (v := .int x) hl2) hc hf)
theorem zw_istore {l : Launch} {k : zMeth} {X : Nat × Nat} {M : zMem} {pc : Nat} {L : List (Option Value)} {S : List Value} {Q : Option Value → zMem → Prop} {i : Nat} {x : Int32} {L2 : List (Option Value)} (hn : i < zl k) (h2 : zst1 L i (.int x) = L2) (hd : decode (zb k) pc = .ok (.istore i, 2)) (kk : zW l k X M (pc + 2) L2 S Q) : zW l k X M pc L (.int x :: S) Q := by
  intro p e R s m args below meth c D cI cJ ad adV n0 w0 H locs ls Qm C I hl hc hf
  subst h2
  exact lv_istore C.1 C.2.1 hd hl hn rfl (fun ls2 hl2 => kk p e R s m args below meth c D cI cJ ad adV n0 w0 H locs ls2 Qm C I (zst1_has (v := .int x) hl2) hc hf)
theorem zw_lstore_n {l : Launch} {k : zMeth} {X : Nat × Nat} {M : zMem} {pc : Nat} {L : List (Option Value)} {S : List Value} {Q : Option Value → zMem → Prop} {n : Fin 4} {i : Nat} {x : Int64} {L2 : List (Option Value)} (hi : (n : Nat) = i) (hn : i + 1 < zl k) (h2 : zst2 L i (.long x) = L2) (hd : decode (zb k) pc = .ok (.lstore_n n, 1)) (kk : zW l k X M (pc + 1) L2 S Q) : zW l k X M pc L (.long x :: S) Q := by
  intro p e R s m args below meth c D cI cJ ad adV n0 w0 H locs ls Qm C I hl hc hf
  subst h2
  exact lv_lstore_n C.1 C.2.1 hd hi hl hn rfl (fun ls2 hl2 => kk p e R s m args below meth c D cI cJ ad adV n0 w0 H locs ls2 Qm C I (zst2_has (v := .long x) hl2) hc hf)
theorem zw_lstore {l : Launch} {k : zMeth} {X : Nat × Nat} {M : zMem} {pc : Nat} {L : List (Option Value)} {S : List Value} {Q : Option Value → zMem → Prop} {i : Nat} {x : Int64} {L2 : List (Option Value)} (hn : i + 1 < zl k) (h2 : zst2 L i (.long x) = L2) (hd : decode (zb k) pc = .ok (.lstore i, 2)) (kk : zW l k X M (pc + 2) L2 S Q) : zW l k X M pc L (.long x :: S) Q := by
  intro p e R s m args below meth c D cI cJ ad adV n0 w0 H locs ls Qm C I hl hc hf
  subst h2
  exact lv_lstore C.1 C.2.1 hd hl hn rfl (fun ls2 hl2 => kk p e R s m args below meth c D cI cJ ad adV n0 w0 H locs ls2 Qm C I (zst2_has (v := .long x) hl2) hc hf)
theorem zw_astore_n {l : Launch} {k : zMeth} {X : Nat × Nat} {M : zMem} {pc : Nat} {L : List (Option Value)} {S : List Value} {Q : Option Value → zMem → Prop} {n : Fin 4} {i : Nat} {x : Nat} {L2 : List (Option Value)} (hi : (n : Nat) = i) (hn : i < zl k) (h2 : zst1 L i (.ref x) = L2) (hd : decode (zb k) pc = .ok (.astore_n n, 1)) (kk : zW l k X M (pc + 1) L2 S Q) : zW l k X M pc L (.ref x :: S) Q := by
  intro p e R s m args below meth c D cI cJ ad adV n0 w0 H locs ls Qm C I hl hc hf
  subst h2
  exact lv_astore_n C.1 C.2.1 hd hi hl hn rfl (fun ls2 hl2 => kk p e R s m args below meth c D cI cJ ad adV n0 w0 H locs ls2 Qm C I (zst1_has (v := .ref x) hl2) hc hf)
theorem zw_astore {l : Launch} {k : zMeth} {X : Nat × Nat} {M : zMem} {pc : Nat} {L : List (Option Value)} {S : List Value} {Q : Option Value → zMem → Prop} {i : Nat} {x : Nat} {L2 : List (Option Value)} (hn : i < zl k) (h2 : zst1 L i (.ref x) = L2) (hd : decode (zb k) pc = .ok (.astore i, 2)) (kk : zW l k X M (pc + 2) L2 S Q) : zW l k X M pc L (.ref x :: S) Q := by
  intro p e R s m args below meth c D cI cJ ad adV n0 w0 H locs ls Qm C I hl hc hf
  subst h2
  exact lv_astore C.1 C.2.1 hd hl hn rfl (fun ls2 hl2 => kk p e R s m args below meth c D cI cJ ad adV n0 w0 H locs ls2 Qm C I (zst1_has (v := .ref x) hl2) hc hf)
theorem zw_iinc {l : Launch} {k : zMeth} {X : Nat × Nat} {M : zMem} {pc : Nat} {L : List (Option Value)} {S : List Value} {Q : Option Value → zMem → Prop} {i : Nat} {n : Int} {x v : Int32} {L2 : List (Option Value)} (hL : L[i]? = some (some (.int x))) (hv : x + Int32.ofInt n = v) (hn : i < zl k) (h2 : zst1 L i (.int v) = L2) (hd : decode (zb k) pc = .ok (.iinc i n, 3)) (kk : zW l k X M (pc + 3) L2 S Q) : zW l k X M pc L S Q := by
  intro p e R s m args below meth c D cI cJ ad adV n0 w0 H locs ls Qm C I hl hc hf
  subst h2
  obtain ⟨j, hj⟩ := List.getElem?_of_mem ((zlv_mem (ad := ad) L 0 (i, .int x)).mpr ⟨i, .int x, hL, by rw [Nat.zero_add]; rfl⟩)
  exact lv_iinc C.1 C.2.1 hd hl hj hv hn rfl (fun ls2 hl2 => kk p e R s m args below meth c D cI cJ ad adV n0 w0 H locs ls2 Qm C I (zst1_has (v := .int v) hl2) hc hf)
theorem zw_dup {l : Launch} {k : zMeth} {X : Nat × Nat} {M : zMem} {pc : Nat} {L : List (Option Value)} {S : List Value} {Q : Option Value → zMem → Prop} {va : Value} (hva : va.category = 1) (hd : decode (zb k) pc = .ok (.dup, 1)) (kk : zW l k X M (pc + 1) L (va :: va :: S) Q) : zW l k X M pc L (va :: S) Q := by
  intro p e R s m args below meth c D cI cJ ad adV n0 w0 H locs ls Qm C I hl hc hf
  exact lv_dup C.1 C.2.1 hd ((zv_cat ad va).trans hva) (kk p e R s m args below meth c D cI cJ ad adV n0 w0 H locs ls Qm C I hl hc hf)
theorem zw_pop {l : Launch} {k : zMeth} {X : Nat × Nat} {M : zMem} {pc : Nat} {L : List (Option Value)} {S : List Value} {Q : Option Value → zMem → Prop} {va : Value} (hva : va.category = 1) (hd : decode (zb k) pc = .ok (.pop, 1)) (kk : zW l k X M (pc + 1) L S Q) : zW l k X M pc L (va :: S) Q := by
  intro p e R s m args below meth c D cI cJ ad adV n0 w0 H locs ls Qm C I hl hc hf
  exact lv_pop C.1 C.2.1 hd ((zv_cat ad va).trans hva) (kk p e R s m args below meth c D cI cJ ad adV n0 w0 H locs ls Qm C I hl hc hf)
theorem zw_dup2 {l : Launch} {k : zMeth} {X : Nat × Nat} {M : zMem} {pc : Nat} {L : List (Option Value)} {S : List Value} {Q : Option Value → zMem → Prop} {va vb : Value} (hva : va.category = 1) (hvb : vb.category = 1) (hd : decode (zb k) pc = .ok (.dup2, 1)) (kk : zW l k X M (pc + 1) L (va :: vb :: va :: vb :: S) Q) : zW l k X M pc L (va :: vb :: S) Q := by
  intro p e R s m args below meth c D cI cJ ad adV n0 w0 H locs ls Qm C I hl hc hf
  exact lv_dup2_11 C.1 C.2.1 hd ((zv_cat ad va).trans hva) ((zv_cat ad vb).trans hvb) (kk p e R s m args below meth c D cI cJ ad adV n0 w0 H locs ls Qm C I hl hc hf)
theorem zw_goto {l : Launch} {k : zMeth} {X : Nat × Nat} {M : zMem} {pc : Nat} {L : List (Option Value)} {S : List Value} {Q : Option Value → zMem → Prop} {off : Int} {tgt : Nat} (ht : (pc : Int) + off = (tgt : Int)) (hd : decode (zb k) pc = .ok (.goto off, 3)) (kk : zW l k X M tgt L S Q) : zW l k X M pc L S Q := by
  intro p e R s m args below meth c D cI cJ ad adV n0 w0 H locs ls Qm C I hl hc hf
  exact lv_goto C.1 C.2.1 hd ht (kk p e R s m args below meth c D cI cJ ad adV n0 w0 H locs ls Qm C I hl hc hf)
theorem zw_lcmp {l : Launch} {k : zMeth} {X : Nat × Nat} {M : zMem} {pc : Nat} {L : List (Option Value)} {S : List Value} {Q : Option Value → zMem → Prop} {x y : Int64} (hd : decode (zb k) pc = .ok (.lcmp, 1)) (kk : zW l k X M (pc + 1) L (.int (lg_cmp x y) :: S) Q) : zW l k X M pc L (.long y :: .long x :: S) Q := by
  intro p e R s m args below meth c D cI cJ ad adV n0 w0 H locs ls Qm C I hl hc hf
  exact W.lcmp C.1 C.2.1 hd (kk p e R s m args below meth c D cI cJ ad adV n0 w0 H locs ls Qm C I hl hc hf)
theorem zw_ishl {l : Launch} {k : zMeth} {X : Nat × Nat} {M : zMem} {pc : Nat} {L : List (Option Value)} {S : List Value} {Q : Option Value → zMem → Prop} {x y : Int32} (hd : decode (zb k) pc = .ok (.ishl, 1)) (kk : zW l k X M (pc + 1) L (.int (x <<< (y &&& 31)) :: S) Q) : zW l k X M pc L (.int y :: .int x :: S) Q := by
  intro p e R s m args below meth c D cI cJ ad adV n0 w0 H locs ls Qm C I hl hc hf
  exact lv_ishl C.1 C.2.1 hd (kk p e R s m args below meth c D cI cJ ad adV n0 w0 H locs ls Qm C I hl hc hf)
theorem zw_ishr {l : Launch} {k : zMeth} {X : Nat × Nat} {M : zMem} {pc : Nat} {L : List (Option Value)} {S : List Value} {Q : Option Value → zMem → Prop} {x y : Int32} (hd : decode (zb k) pc = .ok (.ishr, 1)) (kk : zW l k X M (pc + 1) L (.int (x >>> (y &&& 31)) :: S) Q) : zW l k X M pc L (.int y :: .int x :: S) Q := by
  intro p e R s m args below meth c D cI cJ ad adV n0 w0 H locs ls Qm C I hl hc hf
  exact lv_ishr C.1 C.2.1 hd (kk p e R s m args below meth c D cI cJ ad adV n0 w0 H locs ls Qm C I hl hc hf)
theorem zw_if_eq {l : Launch} {k : zMeth} {X : Nat × Nat} {M : zMem} {pc : Nat} {L : List (Option Value)} {S : List Value} {Q : Option Value → zMem → Prop} {x : Int32} {off : Int} {tgt : Nat} (ht : (pc : Int) + off = (tgt : Int)) (hd : decode (zb k) pc = .ok (.ifCond .eq off, 3)) (kt : x = 0 → zW l k X M tgt L S Q) (kk : ¬ x = 0 → zW l k X M (pc + 3) L S Q) : zW l k X M pc L (.int x :: S) Q := by
  intro p e R s m args below meth c D cI cJ ad adV n0 w0 H locs ls Qm C I hl hc hf
  exact lv_if_eq C.1 C.2.1 hd ht (fun h => kt h p e R s m args below meth c D cI cJ ad adV n0 w0 H locs ls Qm C I hl hc hf) (fun h => kk h p e R s m args below meth c D cI cJ ad adV n0 w0 H locs ls Qm C I hl hc hf)
theorem zw_if_ne {l : Launch} {k : zMeth} {X : Nat × Nat} {M : zMem} {pc : Nat} {L : List (Option Value)} {S : List Value} {Q : Option Value → zMem → Prop} {x : Int32} {off : Int} {tgt : Nat} (ht : (pc : Int) + off = (tgt : Int)) (hd : decode (zb k) pc = .ok (.ifCond .ne off, 3)) (kt : ¬ x = 0 → zW l k X M tgt L S Q) (kk : x = 0 → zW l k X M (pc + 3) L S Q) : zW l k X M pc L (.int x :: S) Q := by
  intro p e R s m args below meth c D cI cJ ad adV n0 w0 H locs ls Qm C I hl hc hf
  exact lv_if_ne C.1 C.2.1 hd ht (fun h => kt h p e R s m args below meth c D cI cJ ad adV n0 w0 H locs ls Qm C I hl hc hf) (fun h => kk h p e R s m args below meth c D cI cJ ad adV n0 w0 H locs ls Qm C I hl hc hf)
theorem zw_if_lt {l : Launch} {k : zMeth} {X : Nat × Nat} {M : zMem} {pc : Nat} {L : List (Option Value)} {S : List Value} {Q : Option Value → zMem → Prop} {x : Int32} {off : Int} {tgt : Nat} (ht : (pc : Int) + off = (tgt : Int)) (hd : decode (zb k) pc = .ok (.ifCond .lt off, 3)) (kt : x < 0 → zW l k X M tgt L S Q) (kk : ¬ x < 0 → zW l k X M (pc + 3) L S Q) : zW l k X M pc L (.int x :: S) Q := by
  intro p e R s m args below meth c D cI cJ ad adV n0 w0 H locs ls Qm C I hl hc hf
  exact lv_if_lt C.1 C.2.1 hd ht (fun h => kt h p e R s m args below meth c D cI cJ ad adV n0 w0 H locs ls Qm C I hl hc hf) (fun h => kk h p e R s m args below meth c D cI cJ ad adV n0 w0 H locs ls Qm C I hl hc hf)
theorem zw_if_ge {l : Launch} {k : zMeth} {X : Nat × Nat} {M : zMem} {pc : Nat} {L : List (Option Value)} {S : List Value} {Q : Option Value → zMem → Prop} {x : Int32} {off : Int} {tgt : Nat} (ht : (pc : Int) + off = (tgt : Int)) (hd : decode (zb k) pc = .ok (.ifCond .ge off, 3)) (kt : 0 ≤ x → zW l k X M tgt L S Q) (kk : ¬ 0 ≤ x → zW l k X M (pc + 3) L S Q) : zW l k X M pc L (.int x :: S) Q := by
  intro p e R s m args below meth c D cI cJ ad adV n0 w0 H locs ls Qm C I hl hc hf
  exact lv_if_ge C.1 C.2.1 hd ht (fun h => kt h p e R s m args below meth c D cI cJ ad adV n0 w0 H locs ls Qm C I hl hc hf) (fun h => kk h p e R s m args below meth c D cI cJ ad adV n0 w0 H locs ls Qm C I hl hc hf)
theorem zw_if_gt {l : Launch} {k : zMeth} {X : Nat × Nat} {M : zMem} {pc : Nat} {L : List (Option Value)} {S : List Value} {Q : Option Value → zMem → Prop} {x : Int32} {off : Int} {tgt : Nat} (ht : (pc : Int) + off = (tgt : Int)) (hd : decode (zb k) pc = .ok (.ifCond .gt off, 3)) (kt : 0 < x → zW l k X M tgt L S Q) (kk : ¬ 0 < x → zW l k X M (pc + 3) L S Q) : zW l k X M pc L (.int x :: S) Q := by
  intro p e R s m args below meth c D cI cJ ad adV n0 w0 H locs ls Qm C I hl hc hf
  exact lv_if_gt C.1 C.2.1 hd ht (fun h => kt h p e R s m args below meth c D cI cJ ad adV n0 w0 H locs ls Qm C I hl hc hf) (fun h => kk h p e R s m args below meth c D cI cJ ad adV n0 w0 H locs ls Qm C I hl hc hf)
theorem zw_if_le {l : Launch} {k : zMeth} {X : Nat × Nat} {M : zMem} {pc : Nat} {L : List (Option Value)} {S : List Value} {Q : Option Value → zMem → Prop} {x : Int32} {off : Int} {tgt : Nat} (ht : (pc : Int) + off = (tgt : Int)) (hd : decode (zb k) pc = .ok (.ifCond .le off, 3)) (kt : x ≤ 0 → zW l k X M tgt L S Q) (kk : ¬ x ≤ 0 → zW l k X M (pc + 3) L S Q) : zW l k X M pc L (.int x :: S) Q := by
  intro p e R s m args below meth c D cI cJ ad adV n0 w0 H locs ls Qm C I hl hc hf
  exact lv_if_le C.1 C.2.1 hd ht (fun h => kt h p e R s m args below meth c D cI cJ ad adV n0 w0 H locs ls Qm C I hl hc hf) (fun h => kk h p e R s m args below meth c D cI cJ ad adV n0 w0 H locs ls Qm C I hl hc hf)
theorem zw_icmp_eq {l : Launch} {k : zMeth} {X : Nat × Nat} {M : zMem} {pc : Nat} {L : List (Option Value)} {S : List Value} {Q : Option Value → zMem → Prop} {x y : Int32} {off : Int} {tgt : Nat} (ht : (pc : Int) + off = (tgt : Int)) (hd : decode (zb k) pc = .ok (.if_icmp .eq off, 3)) (kt : x = y → zW l k X M tgt L S Q) (kk : ¬ x = y → zW l k X M (pc + 3) L S Q) : zW l k X M pc L (.int y :: .int x :: S) Q := by
  intro p e R s m args below meth c D cI cJ ad adV n0 w0 H locs ls Qm C I hl hc hf
  exact lv_icmp_eq C.1 C.2.1 hd ht (fun h => kt h p e R s m args below meth c D cI cJ ad adV n0 w0 H locs ls Qm C I hl hc hf) (fun h => kk h p e R s m args below meth c D cI cJ ad adV n0 w0 H locs ls Qm C I hl hc hf)
theorem zw_icmp_ne {l : Launch} {k : zMeth} {X : Nat × Nat} {M : zMem} {pc : Nat} {L : List (Option Value)} {S : List Value} {Q : Option Value → zMem → Prop} {x y : Int32} {off : Int} {tgt : Nat} (ht : (pc : Int) + off = (tgt : Int)) (hd : decode (zb k) pc = .ok (.if_icmp .ne off, 3)) (kt : ¬ x = y → zW l k X M tgt L S Q) (kk : x = y → zW l k X M (pc + 3) L S Q) : zW l k X M pc L (.int y :: .int x :: S) Q := by
  intro p e R s m args below meth c D cI cJ ad adV n0 w0 H locs ls Qm C I hl hc hf
  exact lv_icmp_ne C.1 C.2.1 hd ht (fun h => kt h p e R s m args below meth c D cI cJ ad adV n0 w0 H locs ls Qm C I hl hc hf) (fun h => kk h p e R s m args below meth c D cI cJ ad adV n0 w0 H locs ls Qm C I hl hc hf)
theorem zw_icmp_lt {l : Launch} {k : zMeth} {X : Nat × Nat} {M : zMem} {pc : Nat} {L : List (Option Value)} {S : List Value} {Q : Option Value → zMem → Prop} {x y : Int32} {off : Int} {tgt : Nat} (ht : (pc : Int) + off = (tgt : Int)) (hd : decode (zb k) pc = .ok (.if_icmp .lt off, 3)) (kt : x < y → zW l k X M tgt L S Q) (kk : ¬ x < y → zW l k X M (pc + 3) L S Q) : zW l k X M pc L (.int y :: .int x :: S) Q := by
  intro p e R s m args below meth c D cI cJ ad adV n0 w0 H locs ls Qm C I hl hc hf
  exact lv_icmp_lt C.1 C.2.1 hd ht (fun h => kt h p e R s m args below meth c D cI cJ ad adV n0 w0 H locs ls Qm C I hl hc hf) (fun h => kk h p e R s m args below meth c D cI cJ ad adV n0 w0 H locs ls Qm C I hl hc hf)
theorem zw_icmp_ge {l : Launch} {k : zMeth} {X : Nat × Nat} {M : zMem} {pc : Nat} {L : List (Option Value)} {S : List Value} {Q : Option Value → zMem → Prop} {x y : Int32} {off : Int} {tgt : Nat} (ht : (pc : Int) + off = (tgt : Int)) (hd : decode (zb k) pc = .ok (.if_icmp .ge off, 3)) (kt : y ≤ x → zW l k X M tgt L S Q) (kk : ¬ y ≤ x → zW l k X M (pc + 3) L S Q) : zW l k X M pc L (.int y :: .int x :: S) Q := by
  intro p e R s m args below meth c D cI cJ ad adV n0 w0 H locs ls Qm C I hl hc hf
  exact lv_icmp_ge C.1 C.2.1 hd ht (fun h => kt h p e R s m args below meth c D cI cJ ad adV n0 w0 H locs ls Qm C I hl hc hf) (fun h => kk h p e R s m args below meth c D cI cJ ad adV n0 w0 H locs ls Qm C I hl hc hf)
theorem zw_icmp_gt {l : Launch} {k : zMeth} {X : Nat × Nat} {M : zMem} {pc : Nat} {L : List (Option Value)} {S : List Value} {Q : Option Value → zMem → Prop} {x y : Int32} {off : Int} {tgt : Nat} (ht : (pc : Int) + off = (tgt : Int)) (hd : decode (zb k) pc = .ok (.if_icmp .gt off, 3)) (kt : y < x → zW l k X M tgt L S Q) (kk : ¬ y < x → zW l k X M (pc + 3) L S Q) : zW l k X M pc L (.int y :: .int x :: S) Q := by
  intro p e R s m args below meth c D cI cJ ad adV n0 w0 H locs ls Qm C I hl hc hf
  exact lv_icmp_gt C.1 C.2.1 hd ht (fun h => kt h p e R s m args below meth c D cI cJ ad adV n0 w0 H locs ls Qm C I hl hc hf) (fun h => kk h p e R s m args below meth c D cI cJ ad adV n0 w0 H locs ls Qm C I hl hc hf)
theorem zw_icmp_le {l : Launch} {k : zMeth} {X : Nat × Nat} {M : zMem} {pc : Nat} {L : List (Option Value)} {S : List Value} {Q : Option Value → zMem → Prop} {x y : Int32} {off : Int} {tgt : Nat} (ht : (pc : Int) + off = (tgt : Int)) (hd : decode (zb k) pc = .ok (.if_icmp .le off, 3)) (kt : x ≤ y → zW l k X M tgt L S Q) (kk : ¬ x ≤ y → zW l k X M (pc + 3) L S Q) : zW l k X M pc L (.int y :: .int x :: S) Q := by
  intro p e R s m args below meth c D cI cJ ad adV n0 w0 H locs ls Qm C I hl hc hf
  exact lv_icmp_le C.1 C.2.1 hd ht (fun h => kt h p e R s m args below meth c D cI cJ ad adV n0 w0 H locs ls Qm C I hl hc hf) (fun h => kk h p e R s m args below meth c D cI cJ ad adV n0 w0 H locs ls Qm C I hl hc hf)
theorem zw_tabOut {l : Launch} {k : zMeth} {X : Nat × Nat} {M : zMem} {pc : Nat} {L : List (Option Value)} {S : List Value} {Q : Option Value → zMem → Prop} {dflt lo hi : Int} {offs : Array Int} {len : Nat} {x : Int32} {tgt : Nat} (h : x.toInt < lo ∨ hi < x.toInt) (ht : (pc : Int) + dflt = (tgt : Int)) (hd : decode (zb k) pc = .ok (.tableswitch dflt lo hi offs, len)) (kk : zW l k X M tgt L S Q) : zW l k X M pc L (.int x :: S) Q := by
  intro p e R s m args below meth c D cI cJ ad adV n0 w0 H locs ls Qm C I hl hc hf
  exact lv_tableOut C.1 C.2.1 hd h ht (kk p e R s m args below meth c D cI cJ ad adV n0 w0 H locs ls Qm C I hl hc hf)
theorem zw_tabIn {l : Launch} {k : zMeth} {X : Nat × Nat} {M : zMem} {pc : Nat} {L : List (Option Value)} {S : List Value} {Q : Option Value → zMem → Prop} {dflt lo hi : Int} {offs : Array Int} {len : Nat} {x : Int32} {off : Int} {tgt : Nat} (h1 : ¬ x.toInt < lo) (h2 : ¬ hi < x.toInt) (ho : offs[(x.toInt - lo).toNat]? = some off) (ht : (pc : Int) + off = (tgt : Int)) (hd : decode (zb k) pc = .ok (.tableswitch dflt lo hi offs, len)) (kk : zW l k X M tgt L S Q) : zW l k X M pc L (.int x :: S) Q := by
  intro p e R s m args below meth c D cI cJ ad adV n0 w0 H locs ls Qm C I hl hc hf
  exact lv_tableIn C.1 C.2.1 hd h1 h2 ho ht (kk p e R s m args below meth c D cI cJ ad adV n0 w0 H locs ls Qm C I hl hc hf)
theorem zw_iret {l : Launch} {k : zMeth} {X : Nat × Nat} {M : zMem} {pc : Nat} {L : List (Option Value)} {S : List Value} {Q : Option Value → zMem → Prop} {v : Int32} {ty : FieldType} (hr : zr k = some ty) (hn : narrow ty (.int v) = .int v) (hd : decode (zb k) pc = .ok (.ireturn, 1)) (hQ : Q (some (.int v)) M) : zW l k X M pc L [.int v] Q := by
  intro p e R s m args below meth c D cI cJ ad adV n0 w0 H locs ls Qm C I hl hc hf
  exact hf (some (.int v)) M H locs pc ls hQ (Or.inl ⟨v, ty, rfl, hd, hr, hn⟩) I ⟨Nat.le_refl _, hc.2.1, Nat.le_refl _, hc.2.2.2.2.1⟩
theorem zw_lret {l : Launch} {k : zMeth} {X : Nat × Nat} {M : zMem} {pc : Nat} {L : List (Option Value)} {S : List Value} {Q : Option Value → zMem → Prop} {v : Int64} (hr : zr k = some .long) (hd : decode (zb k) pc = .ok (.lreturn, 1)) (hQ : Q (some (.long v)) M) : zW l k X M pc L [.long v] Q := by
  intro p e R s m args below meth c D cI cJ ad adV n0 w0 H locs ls Qm C I hl hc hf
  exact hf (some (.long v)) M H locs pc ls hQ (Or.inr (Or.inl ⟨v, rfl, hd, hr⟩)) I ⟨Nat.le_refl _, hc.2.1, Nat.le_refl _, hc.2.2.2.2.1⟩
theorem zw_vret {l : Launch} {k : zMeth} {X : Nat × Nat} {M : zMem} {pc : Nat} {L : List (Option Value)} {S : List Value} {Q : Option Value → zMem → Prop} (hr : zr k = none) (hd : decode (zb k) pc = .ok (.return_, 1)) (hQ : Q none M) : zW l k X M pc L [] Q := by
  intro p e R s m args below meth c D cI cJ ad adV n0 w0 H locs ls Qm C I hl hc hf
  exact hf none M H locs pc ls hQ (Or.inr (Or.inr ⟨rfl, hd, hr⟩)) I ⟨Nat.le_refl _, hc.2.1, Nat.le_refl _, hc.2.2.2.2.1⟩
theorem zE_obj {cI cJ : ClassId} {ad : Nat → Nat} {M : zMem} {q ci : Nat} (h : (zsh M q).1 = ci + 3) : zE cI cJ ad M q = .inr (ci, zFs ad M q ci) := by
  unfold zE
  rw [if_neg (by omega), if_neg (by omega), h, Nat.add_sub_cancel]
theorem zE_int {cI cJ : ClassId} {ad : Nat → Nat} {M : zMem} {q n : Nat} (h : zsh M q = (1, n)) : zE cI cJ ad M q = .inl (cI, n, .inl (zi M q)) := by
  unfold zE
  rw [if_pos (by rw [h]), h]
theorem zE_long {cI cJ : ClassId} {ad : Nat → Nat} {M : zMem} {q n : Nat} (h : zsh M q = (2, n)) : zE cI cJ ad M q = .inl (cJ, n, .inr (.inl (zj M q))) := by
  unfold zE
  rw [if_neg (by rw [h]; exact fun q => by cases q), if_pos (by rw [h]), h]
theorem zOK_lt {ad : Nat → Nat} {M : zMem} {q t : Nat} (h : zOK ad M) (hq : (zsh M q).1 = t + 1) : q < zn M := by
  rcases Nat.lt_or_ge q (zn M) with g | g
  · exact g
  · have := h.2.2 q g
    omega
theorem zFs_get {ad : Nat → Nat} {M : zMem} {q ci j : Nat} (hj : j < zN ci) : (zFs ad M q ci)[j]? = some (zV ad M q j (zG ci j)) := by
  simp [zFs, hj]
theorem zFs_len {ad : Nat → Nat} {M : zMem} {q ci : Nat} : (zFs ad M q ci).length = zN ci := by simp [zFs]
theorem zw_get {l : Launch} {k : zMeth} {X : Nat × Nat} {M : zMem} {pc : Nat} {L : List (Option Value)} {S : List Value} {Q : Option Value → zMem → Prop} {ix ci j q : Nat} {v : Value} (hF : zFL (zo k) ix ci j) (hq : (zsh M q).1 = ci + 3) (hv : ∀ ad, zV ad M q j (zG ci j) = zv ad v) (hd : decode (zb k) pc = .ok (.getfield ix, 3)) (kk : zW l k X M (pc + 3) L (v :: S) Q) : zW l k X M pc L (.ref q :: S) Q := by
  intro p e R s m args below meth c D cI cJ ad adV n0 w0 H locs ls Qm C I hl hc hf
  have hlt : q < zn M := zOK_lt I.2.2.2.2.2 (t := ci + 2) (by omega)
  have he : (zws cI cJ ad M)[q]? = some (ad q, .inr (ci, zFs ad M q ci)) := by rw [zws_get hlt, zE_obj hq]
  obtain ⟨h1, h2, h3⟩ := hF
  have hv2 : (zFs ad M q ci)[j]? = some (zv ad v) := by rw [zFs_get h2, hv ad]
  rcases h3 with h3 | ⟨host, h3⟩
  · exact va_get (T := zT ci) (N := zN ci) C.1 C.2.1 C.2.2.2.2.1 (z_in ci h1) C.2.2.2.1 I.1.1 I.2.2.1 q he (z_cl ci h1) j h2 (C.2.2.2.2.1 _ h3) (fun x hx => by rw [z_own ci h1 j h2] at hx; exact hx) hv2 hd (kk p e R s m args below meth c D cI cJ ad adV n0 w0 H locs ls Qm C I hl hc hf)
  · exact va_getN (T := zT ci) (N := zN ci) C.1 C.2.1 C.2.2.2.2.1 (z_in ci h1) C.2.2.2.1 I.1.1 I.2.2.1 q he (z_cl ci h1) j h2 (va_Nw.use rfl (I.1.2.1 _ h3)) (fun x hx => by rw [z_own ci h1 j h2] at hx; exact hx) hv2 hd (kk p e R s m args below meth c D cI cJ ad adV n0 w0 H locs ls Qm C I hl hc hf)
theorem zw_getI {l : Launch} {k : zMeth} {X : Nat × Nat} {M : zMem} {pc : Nat} {L : List (Option Value)} {S : List Value} {Q : Option Value → zMem → Prop} {ix ci j q : Nat} (hF : zFL (zo k) ix ci j) (hg : zG ci j = 0) (hq : (zsh M q).1 = ci + 3) (hd : decode (zb k) pc = .ok (.getfield ix, 3)) (kk : zW l k X M (pc + 3) L (.int (zi M q j) :: S) Q) : zW l k X M pc L (.ref q :: S) Q :=
  zw_get (v := .int (zi M q j)) hF hq (fun ad => by rw [hg]; rfl) hd kk
theorem zw_getJ {l : Launch} {k : zMeth} {X : Nat × Nat} {M : zMem} {pc : Nat} {L : List (Option Value)} {S : List Value} {Q : Option Value → zMem → Prop} {ix ci j q : Nat} (hF : zFL (zo k) ix ci j) (hg : zG ci j = 1) (hq : (zsh M q).1 = ci + 3) (hd : decode (zb k) pc = .ok (.getfield ix, 3)) (kk : zW l k X M (pc + 3) L (.long (zj M q j) :: S) Q) : zW l k X M pc L (.ref q :: S) Q :=
  zw_get (v := .long (zj M q j)) hF hq (fun ad => by rw [hg]; rfl) hd kk
theorem zw_getF {l : Launch} {k : zMeth} {X : Nat × Nat} {M : zMem} {pc : Nat} {L : List (Option Value)} {S : List Value} {Q : Option Value → zMem → Prop} {ix ci j q r : Nat} (hF : zFL (zo k) ix ci j) (hg : zG ci j = 2) (hq : (zsh M q).1 = ci + 3) (hr : zf M q j = some r) (hd : decode (zb k) pc = .ok (.getfield ix, 3)) (kk : zW l k X M (pc + 3) L (.ref r :: S) Q) : zW l k X M pc L (.ref q :: S) Q :=
  zw_get (v := .ref r) hF hq (fun ad => by rw [hg]; unfold zV; rw [if_neg (by decide), if_neg (by decide), hr]; rfl) hd kk
theorem zFs_set {ad : Nat → Nat} {M M1 : zMem} {q ci j : Nat} {v : Value} (hj : j < zN ci) (h0 : zV ad M1 q j (zG ci j) = v) (h1 : ∀ i, i ≠ j → zV ad M1 q i (zG ci i) = zV ad M q i (zG ci i)) : (zFs ad M q ci).set j v = zFs ad M1 q ci := by
  apply List.ext_getElem?
  intro i
  by_cases hi : i < zN ci
  · rw [zFs_get hi]
    by_cases he : i = j
    · subst he
      rw [List.getElem?_set_self (by rw [zFs_len]; exact hi), h0]
    · rw [List.getElem?_set_ne (Ne.symm he), zFs_get hi, h1 i he]
  · rw [List.getElem?_eq_none (by rw [List.length_set, zFs_len]; omega), List.getElem?_eq_none (by rw [zFs_len]; omega)]
def zFO (own ix ci k : Nat) : Prop := ci < 12 ∧ k < zN ci ∧ Cond.fieldLink (zR own) ix (zR ci) (zT ci k).2.1 (zT ci k).2.2.1 ∈ z_tbl
theorem zw_put {l : Launch} {k : zMeth} {X : Nat × Nat} {M M1 : zMem} {pc : Nat} {L : List (Option Value)} {S : List Value} {Q : Option Value → zMem → Prop} {ix ci j q : Nat} {v : Value} (hF : (zFL (zo k) ix ci j ∧ (zT ci j).2.2.2 = false) ∨ (zFO (zo k) ix ci j ∧ (zT ci j).2.2.2 = true ∧ (zy k).name = "<init>" ∧ ci = zo k)) (hq : (zsh M q).1 = ci + 3) (hn : ∀ ad, narrow (zY ci j) (zv ad v) = zv ad v) (hft : ∀ ad, fits (zY ci j) (zv ad v) = true)
    (e1 : M1.1 = M.1) (e2 : M1.2.1 = M.2.1) (e3 : ∀ ad, zV ad M1 q j (zG ci j) = zv ad v) (e4 : ∀ ad i, i ≠ j → zV ad M1 q i (zG ci i) = zV ad M q i (zG ci i)) (e5 : ∀ i, i ≠ q → zi M1 i = zi M i ∧ zj M1 i = zj M i ∧ zf M1 i = zf M i)
    (hd : decode (zb k) pc = .ok (.putfield ix, 3)) (kk : zW l k X M1 (pc + 3) L S Q) : zW l k X M pc L (v :: .ref q :: S) Q := by
  intro p e R s m args below meth c D cI cJ ad adV n0 w0 H locs ls Qm C I hl hc hf
  have hlt : q < zn M := zOK_lt I.2.2.2.2.2 (t := ci + 2) (by omega)
  have he : (zws cI cJ ad M)[q]? = some (ad q, .inr (ci, zFs ad M q ci)) := by rw [zws_get hlt, zE_obj hq]
  have hz : zn M1 = zn M := by unfold zn; rw [e1]
  have hw : zw M1 = zw M := by unfold zw; rw [e1]
  have hs : zsh M1 = zsh M := e2
  have h12 : ci < 12 ∧ j < zN ci := by
    rcases hF with ⟨h, -⟩ | ⟨h, -⟩
    · exact ⟨h.1, h.2.1⟩
    · exact ⟨h.1, h.2.1⟩
  obtain ⟨h1, h2⟩ := h12
  have hset : (zws cI cJ ad M).set q (ad q, .inr (ci, (zFs ad M q ci).set j (zv ad v))) = zws cI cJ ad M1 := by
    refine zws_set hz ?_ (fun i hi => ?_)
    · rw [zFs_set (M1 := M1) h2 (e3 ad) (e4 ad), zE_obj (by rw [hs]; exact hq)]
    · obtain ⟨a, b, c⟩ := e5 i hi
      exact zE_congr (by rw [hs]) a b c
  have hD := zws_D (cI := cI) (cJ := cJ) I.2.2.2.2.2
  have key : ∀ (H1 : Heap) (locs1 : List Loc), va_P D zcl ((zws cI cJ ad M).set q (ad q, .inr (ci, (zFs ad M q ci).set j (zv ad v)))) H1 → va_S (fun q => ad 0 ≤ q) s.heap H1 locs1 → H1.size = H.size → W p l e R s m args below meth c H1 locs1 (zn M - n0) (zw M - w0) Qm (F0 m (pc + 3) ls (S.map (zv ad))) := by
    intro H1 locs1 a1 a2 a3
    rw [hset] at a1
    have hk := kk p e R s m args below meth c D cI cJ ad adV n0 w0 H1 locs1 ls Qm C ⟨I.1, I.2.1, a1, a2, by rw [a3, hz]; exact I.2.2.2.2.1, ⟨by rw [hz]; exact I.2.2.2.2.2.1, I.2.2.2.2.2.2.1, fun x hx => by rw [hs]; exact I.2.2.2.2.2.2.2 x (by rw [← hz]; exact hx)⟩⟩ hl (by rw [hz, hw]; exact hc) (by rw [hz, hw]; exact hf)
    rw [hz, hw] at hk
    exact hk
  obtain ⟨r, h4, cell, q1, q2, q3, q4⟩ := I.2.2.1 q _ he
  have hr : r = (zR ci, zT ci, zN ci) := Option.some.inj (h4.symm.trans (z_cl ci h1))
  subst hr
  obtain ⟨hS, hfc, kC, hkC, hkind⟩ := I.1.1.1 ci _ (z_cl ci h1)
  obtain ⟨cf, kf, fi, f, hi, hsl⟩ := hS j h2
  have hin := z_in ci h1
  have hlay := C.2.2.2.2.1 _ (hin _ (u_in_lay h2))
  have hst := (u_facts hfc hkC (u_lays C.2.2.2.2.1 hin h2) hi).1
  have hap := va_apart (own := zR (zo k)) C.2.2.2.2.1 hin (zY ci) (z_ty ci h1) (z_nm ci h1) I.1.1 (z_cl ci h1)
  have hi' : s.fieldFound? (zR ci) (zT ci j).2.1 (zT ci j).2.2.1 = some (cf, kf, fi, f) := by
    have h9 := hi
    simp only [z_own ci h1 j h2] at h9
    exact h9
  have hll : j < (zFs ad M q ci).length := by rw [zFs_len]; exact h2
  have fin : ∀ (H' : Heap) (i0 : Nat), H'[ad q]? = some (cell.setSlot (D.2 ci j) (zv ad v)) → H'.size = H.size → (∀ x, x ≠ ad q → H'[x]? = H[x]?) → W p l e R s m args below meth c H' (locs ++ [⟨ad q, i0⟩]) (zn M - n0) (zw M - w0) Qm (F0 m (pc + 3) ls (S.map (zv ad))) := fun H' i0 g1 g2 g3 =>
    key H' _ (va_P.set I.2.2.1 hD he ⟨_, z_cl ci h1, t_OB.to (V := updV (vp_V (zFs ad M q ci)) j (zv ad v)) ⟨_, g1, q2, q3, t_set q4 hap h2 (zv ad v)⟩ (fun x _ => vp_updV_set hll (zv ad v) x)⟩ g3) (va_S.put I.2.2.2.1 g2 g3 (hD.2 q _ he)) g2
  rcases hF with ⟨⟨-, -, h3⟩, hfin⟩ | ⟨⟨-, -, h3⟩, hfin, hin2, hdecl⟩
  · unfold u_lay at hlay
    rw [if_neg (by rw [hfin]; decide)] at hlay
    have h6 := u_store hfc hkC hkind hlay hi (z_ty ci h1 j h2) (hn ad) (hft ad)
    rcases h3 with h3 | ⟨host, h3⟩
    · exact W.putK C.1 C.2.1 (f := f) ⟨C.2.2.2.1, C.2.2.2.2.1 _ h3, ⟨_, _, _, hi'⟩, hst⟩ (by rw [q2]; exact h6) q1 q3 (by rw [hsl]; exact k2_hasslot (q4 j h2)) rfl rfl hd (fun H' g1 g2 g3 => fin H' _ (by rw [hsl] at g1; exact g1) g2 g3)
    · exact va_WputK C.1 C.2.1 (f := f) C.2.2.2.1 (va_Nw.use rfl (I.1.2.1 _ h3)) hi' hst (by rw [q2]; exact h6) q1 q3 (by rw [hsl]; exact k2_hasslot (q4 j h2)) rfl rfl hd (fun H' g1 g2 g3 => fin H' _ (by rw [hsl] at g1; exact g1) g2 g3)
  · unfold u_lay at hlay
    rw [if_pos hfin] at hlay
    have hcf : m.cls = cf := by
      obtain ⟨_, _, c', _, _, _, -, -, hf', -, -, -, hown2, -⟩ := Cond.laysFinal_spec hlay
      have e1 : c' = cf := by have := hi.symm.trans hf'; simp at this; exact this.1.symm
      rw [z_own ci h1 j h2, hdecl] at hown2
      rw [← e1]; exact Option.some.inj (C.2.2.2.1.symm.trans hown2)
    have h6 := u_fits hfc hkC hkind (Or.inr hlay) hi (z_ty ci h1 j h2) (hn ad) (hft ad)
    exact W.putFinK C.1 C.2.1 C.2.2.2.1 (C.2.2.2.2.1 _ h3) hi' hst hcf (C.2.2.2.2.2.2.2.1.trans hin2) (by rw [q2]; exact h6) q1 q3 (by rw [hsl]; exact k2_hasslot (q4 j h2)) rfl rfl hd (fun H' g1 g2 g3 => fin H' _ (by rw [hsl] at g1; exact g1) g2 g3)
theorem zup2_s {α : Type} {f : Nat → Nat → α} {q k : Nat} {v : α} : zup2 f q k v q k = v := by simp [zup2]
theorem zup2_n {α : Type} {f : Nat → Nat → α} {q k q' k' : Nat} {v : α} (h : ¬ (q' = q ∧ k' = k)) : zup2 f q k v q' k' = f q' k' := by simp only [zup2, if_neg h]
theorem zup2_q {α : Type} {f : Nat → Nat → α} {q k q' : Nat} {v : α} (h : q' ≠ q) : zup2 f q k v q' = f q' := by
  funext j
  exact zup2_n (fun x => h x.1)
theorem zw_putI {l : Launch} {k : zMeth} {X : Nat × Nat} {M : zMem} {pc : Nat} {L : List (Option Value)} {S : List Value} {Q : Option Value → zMem → Prop} {ix ci j q : Nat} {x : Int32} (hF : zFL (zo k) ix ci j) (hfin : (zT ci j).2.2.2 = false) (hg : zG ci j = 0) (hq : (zsh M q).1 = ci + 3) (hn : narrow (zY ci j) (.int x) = .int x) (hft : fits (zY ci j) (.int x) = true)
    (hd : decode (zb k) pc = .ok (.putfield ix, 3)) (kk : zW l k X (zsI M q j x) (pc + 3) L S Q) : zW l k X M pc L (.int x :: .ref q :: S) Q :=
  zw_put (M1 := zsI M q j x) (Or.inl ⟨hF, hfin⟩) hq (fun _ => hn) (fun _ => hft) rfl rfl (fun ad => by rw [hg]; unfold zV; rw [if_pos rfl]; show Value.int (zup2 _ q j x q j) = _; rw [zup2_s]; rfl)
    (fun ad i hi => by unfold zV; show (if _ then Value.int (zup2 _ q j x q i) else _) = _; rw [zup2_n (fun z => hi z.2)]; rfl) (fun i hi => ⟨zup2_q hi, rfl, rfl⟩) hd kk
theorem zw_putJ {l : Launch} {k : zMeth} {X : Nat × Nat} {M : zMem} {pc : Nat} {L : List (Option Value)} {S : List Value} {Q : Option Value → zMem → Prop} {ix ci j q : Nat} {x : Int64} (hF : zFL (zo k) ix ci j) (hfin : (zT ci j).2.2.2 = false) (hg : zG ci j = 1) (hq : (zsh M q).1 = ci + 3) (hn : narrow (zY ci j) (.long x) = .long x) (hft : fits (zY ci j) (.long x) = true)
    (hd : decode (zb k) pc = .ok (.putfield ix, 3)) (kk : zW l k X (zsJ M q j x) (pc + 3) L S Q) : zW l k X M pc L (.long x :: .ref q :: S) Q :=
  zw_put (M1 := zsJ M q j x) (Or.inl ⟨hF, hfin⟩) hq (fun _ => hn) (fun _ => hft) rfl rfl (fun ad => by rw [hg]; unfold zV; rw [if_neg (by decide), if_pos rfl]; show Value.long (zup2 _ q j x q j) = _; rw [zup2_s]; rfl)
    (fun ad i hi => by unfold zV; show (if _ then _ else if _ then Value.long (zup2 _ q j x q i) else _) = _; rw [zup2_n (fun z => hi z.2)]; rfl) (fun i hi => ⟨rfl, zup2_q hi, rfl⟩) hd kk
theorem zw_putR {l : Launch} {k : zMeth} {X : Nat × Nat} {M : zMem} {pc : Nat} {L : List (Option Value)} {S : List Value} {Q : Option Value → zMem → Prop} {ix ci j q x : Nat} (hF : (zFL (zo k) ix ci j ∧ (zT ci j).2.2.2 = false) ∨ (zFO (zo k) ix ci j ∧ (zT ci j).2.2.2 = true ∧ (zy k).name = "<init>" ∧ ci = zo k)) (hg : zG ci j = 2) (hq : (zsh M q).1 = ci + 3) (hn : ∀ a, narrow (zY ci j) (.ref a) = .ref a) (hft : ∀ a, fits (zY ci j) (.ref a) = true)
    (hd : decode (zb k) pc = .ok (.putfield ix, 3)) (kk : zW l k X (zsF M q j (some x)) (pc + 3) L S Q) : zW l k X M pc L (.ref x :: .ref q :: S) Q :=
  zw_put (M1 := zsF M q j (some x)) hF hq (fun ad => hn (ad x)) (fun ad => hft (ad x)) rfl rfl (fun ad => by rw [hg]; unfold zV; rw [if_neg (by decide), if_neg (by decide)]; show va_rf ((zup2 _ q j (some x) q j).map ad) = _; rw [zup2_s]; rfl)
    (fun ad i hi => by unfold zV; show (if _ then _ else if _ then _ else va_rf ((zup2 _ q j (some x) q i).map ad)) = _; rw [zup2_n (fun z => hi z.2)]; rfl) (fun i hi => ⟨rfl, rfl, zup2_q hi⟩) hd kk
theorem zw_iald {l : Launch} {k : zMeth} {X : Nat × Nat} {M : zMem} {pc : Nat} {L : List (Option Value)} {S : List Value} {Q : Option Value → zMem → Prop} {q n : Nat} {i : Int32} (hq : zsh M q = (1, n)) (hin : vp_in i n) (hd : decode (zb k) pc = .ok (.iaload, 1)) (kk : zW l k X M (pc + 1) L (.int (zi M q i.toNatClampNeg) :: S) Q) : zW l k X M pc L (.int i :: .ref q :: S) Q := by
  intro p e R s m args below meth c D cI cJ ad adV n0 w0 H locs ls Qm C I hl hc hf
  have hlt : q < zn M := zOK_lt I.2.2.2.2.2 (t := 0) (by rw [hq])
  have he : (zws cI cJ ad M)[q]? = some (ad q, .inl (cI, n, .inl (zi M q))) := by rw [zws_get hlt, zE_int hq]
  exact va_iald C.1 C.2.1 I.1.1 I.2.2.1 q 0 he rfl hin hd (kk p e R s m args below meth c D cI cJ ad adV n0 w0 H locs ls Qm C I hl hc hf)
theorem zw_lald {l : Launch} {k : zMeth} {X : Nat × Nat} {M : zMem} {pc : Nat} {L : List (Option Value)} {S : List Value} {Q : Option Value → zMem → Prop} {q n : Nat} {i : Int32} (hq : zsh M q = (2, n)) (hin : vp_in i n) (hd : decode (zb k) pc = .ok (.laload, 1)) (kk : zW l k X M (pc + 1) L (.long (zj M q i.toNatClampNeg) :: S) Q) : zW l k X M pc L (.int i :: .ref q :: S) Q := by
  intro p e R s m args below meth c D cI cJ ad adV n0 w0 H locs ls Qm C I hl hc hf
  have hlt : q < zn M := zOK_lt I.2.2.2.2.2 (t := 1) (by rw [hq])
  have he : (zws cI cJ ad M)[q]? = some (ad q, .inl (cJ, n, .inr (.inl (zj M q)))) := by rw [zws_get hlt, zE_long hq]
  exact va_lald C.1 C.2.1 I.1.1 I.2.2.1 q 1 he rfl hin hd (kk p e R s m args below meth c D cI cJ ad adV n0 w0 H locs ls Qm C I hl hc hf)
theorem zw_alen {l : Launch} {k : zMeth} {X : Nat × Nat} {M : zMem} {pc : Nat} {L : List (Option Value)} {S : List Value} {Q : Option Value → zMem → Prop} {q n : Nat} (hq : zsh M q = (1, n) ∨ zsh M q = (2, n)) (hd : decode (zb k) pc = .ok (.arraylength, 1)) (kk : zW l k X M (pc + 1) L (.int (nI n) :: S) Q) : zW l k X M pc L (.ref q :: S) Q := by
  intro p e R s m args below meth c D cI cJ ad adV n0 w0 H locs ls Qm C I hl hc hf
  rcases hq with hq | hq
  · have hlt : q < zn M := zOK_lt I.2.2.2.2.2 (t := 0) (by rw [hq])
    have he : (zws cI cJ ad M)[q]? = some (ad q, .inl (cI, n, .inl (zi M q))) := by rw [zws_get hlt, zE_int hq]
    exact va_alen (tys := [(cI, .int), (cJ, .long)]) (ty := .int) C.1 C.2.1 I.1.1 I.2.2.1 q 0 he rfl rfl hd (kk p e R s m args below meth c D cI cJ ad adV n0 w0 H locs ls Qm C I hl hc hf)
  · have hlt : q < zn M := zOK_lt I.2.2.2.2.2 (t := 1) (by rw [hq])
    have he : (zws cI cJ ad M)[q]? = some (ad q, .inl (cJ, n, .inr (.inl (zj M q)))) := by rw [zws_get hlt, zE_long hq]
    exact va_alen (tys := [(cI, .int), (cJ, .long)]) (ty := .long) C.1 C.2.1 I.1.1 I.2.2.1 q 1 he rfl rfl hd (kk p e R s m args below meth c D cI cJ ad adV n0 w0 H locs ls Qm C I hl hc hf)
theorem zI_step {D : va_G} {cI cJ : ClassId} {ad adV : Nat → Nat} {M M1 : zMem} {s : State} {H H1 : Heap} {locs locs1 : List Loc} {q : Nat} {x0 : va_E} (I : zI D cI cJ ad adV M s H locs) (hlt : q < zn M) (e1 : M1.1 = M.1) (e2 : M1.2.1 = M.2.1) (e5 : ∀ i, i ≠ q → zi M1 i = zi M i ∧ zj M1 i = zj M i ∧ zf M1 i = zf M i)
    (hP : va_at D zcl (ad q, zE cI cJ ad M1 q) H1) (hS : va_S (fun q => ad 0 ≤ q) s.heap H1 locs1) (hz : H1.size = H.size) (ho : ∀ x : Nat, x ≠ ad q → H1[x]? = H[x]?) : zI D cI cJ ad adV M1 s H1 locs1 := by
  have hzn : zn M1 = zn M := by unfold zn; rw [e1]
  have hs : zsh M1 = zsh M := e2
  have hset : (zws cI cJ ad M).set q (ad q, zE cI cJ ad M1 q) = zws cI cJ ad M1 := by
    refine zws_set hzn rfl (fun i hi => ?_)
    obtain ⟨a, b, c⟩ := e5 i hi
    exact zE_congr (by rw [hs]) a b c
  have hp := va_P.set I.2.2.1 (zws_D (cI := cI) (cJ := cJ) I.2.2.2.2.2) (zws_get hlt) hP ho
  rw [hset] at hp
  exact ⟨I.1, I.2.1, hp, hS, by rw [hz, hzn]; exact I.2.2.2.2.1, by rw [hzn]; exact I.2.2.2.2.2.1, I.2.2.2.2.2.2.1, fun x hx => by rw [hs]; exact I.2.2.2.2.2.2.2 x (by rw [← hzn]; exact hx)⟩
theorem zad_le {ad : Nat → Nat} {M : zMem} {q : Nat} (h : zOK ad M) (hq : q < zn M) : ad 0 ≤ ad q := by
  have := h.2.1 q (by have := h.1; omega)
  omega
theorem zw_iast {l : Launch} {k : zMeth} {X : Nat × Nat} {M : zMem} {pc : Nat} {L : List (Option Value)} {S : List Value} {Q : Option Value → zMem → Prop} {q n : Nat} {i x : Int32} (hq : zsh M q = (1, n)) (hin : vp_in i n) (hd : decode (zb k) pc = .ok (.iastore, 1)) (kk : zW l k X (zsI M q i.toNatClampNeg x) (pc + 1) L S Q) : zW l k X M pc L (.int x :: .int i :: .ref q :: S) Q := by
  intro p e R s m args below meth c D cI cJ ad adV n0 w0 H locs ls Qm C I hl hc hf
  have hlt : q < zn M := zOK_lt I.2.2.2.2.2 (t := 0) (by rw [hq])
  have he : (zws cI cJ ad M)[q]? = some (ad q, .inl (cI, n, .inl (zi M q))) := by rw [zws_get hlt, zE_int hq]
  refine W.iast C.1 C.2.1 (I.2.2.1 q _ he) ((I.1.1.2 0 _ rfl).1 n (fun j => .int (zi M q j))) (fun q => by cases q) (by show ¬ (i < 0 ∨ (arrV _ _ _).slots.size ≤ _); rw [arrV_size]; exact hin) rfl rfl hd fun H1 g1 g2 g3 => ?_
  refine kk p e R s m args below meth c D cI cJ ad adV n0 w0 H1 _ ls Qm C (zI_step (x0 := .inl (cI, n, .inl (zi M q))) (M1 := zsI M q i.toNatClampNeg x) I hlt rfl rfl (fun i hi => ⟨zup2_q hi, rfl, rfl⟩) ?_ (va_S.put I.2.2.2.1 g2 g3 (zad_le I.2.2.2.2.2 hlt)) g2 g3) hl hc hf
  rw [zE_int (M := zsI M q i.toNatClampNeg x) hq]
  show H1[ad q]? = some (vp_cell _ _)
  rw [g1, vp_cell_i, vp_cell_i, arrV_store]
  congr 2
  funext y
  by_cases hy : y = i.toNatClampNeg
  · subst hy
    simp [updV, zsI, zi, zup2]
  · simp [updV, zsI, zi, zup2, hy]
theorem zw_last {l : Launch} {k : zMeth} {X : Nat × Nat} {M : zMem} {pc : Nat} {L : List (Option Value)} {S : List Value} {Q : Option Value → zMem → Prop} {q n : Nat} {i : Int32} {x : Int64} (hq : zsh M q = (2, n)) (hin : vp_in i n) (hd : decode (zb k) pc = .ok (.lastore, 1)) (kk : zW l k X (zsJ M q i.toNatClampNeg x) (pc + 1) L S Q) : zW l k X M pc L (.long x :: .int i :: .ref q :: S) Q := by
  intro p e R s m args below meth c D cI cJ ad adV n0 w0 H locs ls Qm C I hl hc hf
  have hlt : q < zn M := zOK_lt I.2.2.2.2.2 (t := 1) (by rw [hq])
  have he : (zws cI cJ ad M)[q]? = some (ad q, .inl (cJ, n, .inr (.inl (zj M q)))) := by rw [zws_get hlt, zE_long hq]
  refine W.last C.1 C.2.1 (I.2.2.1 q _ he) ((I.1.1.2 1 _ rfl).1 n (fun j => .long (zj M q j))) (fun q => by cases q) (by show ¬ (i < 0 ∨ (arrV _ _ _).slots.size ≤ _); rw [arrV_size]; exact hin) rfl rfl hd fun H1 g1 g2 g3 => ?_
  refine kk p e R s m args below meth c D cI cJ ad adV n0 w0 H1 _ ls Qm C (zI_step (x0 := .inl (cJ, n, .inr (.inl (zj M q)))) (M1 := zsJ M q i.toNatClampNeg x) I hlt rfl rfl (fun i hi => ⟨rfl, zup2_q hi, rfl⟩) ?_ (va_S.put I.2.2.2.1 g2 g3 (zad_le I.2.2.2.2.2 hlt)) g2 g3) hl hc hf
  rw [zE_long (M := zsJ M q i.toNatClampNeg x) hq]
  show H1[ad q]? = some (vp_cell _ _)
  rw [g1, vp_cell_l, vp_cell_l, arrV_store]
  congr 2
  funext y
  by_cases hy : y = i.toNatClampNeg
  · subst hy
    simp [updV, zsJ, zj, zup2]
  · simp [updV, zsJ, zj, zup2, hy]
theorem zI_push {D : va_G} {cI cJ : ClassId} {ad adV : Nat → Nat} {M : zMem} {s : State} {H H1 : Heap} {locs : List Loc} {t n : Nat} (I : zI D cI cJ ad adV M s H locs) (hm : zn M < 1000000) (hP : va_at D zcl (H.size, zE cI cJ ad (zal M t n) (zn M)) H1) (hz : H1.size = H.size + 1) (ho : ∀ x : Nat, x < H.size → H1[x]? = H[x]?) : zI D cI cJ ad adV (zal M t n) s H1 locs := by
  have hzn : zn (zal M t n) = zn M + 1 := rfl
  have hb : ad (zn M) = H.size := by rw [I.2.2.2.2.2.2.1 _ hm, I.2.2.2.2.1]
  have hp : va_P D zcl (zws cI cJ ad M ++ [(ad (zn M), zE cI cJ ad (zal M t n) (zn M))]) H1 := by
    refine va_P.app (va_P.kept I.2.2.1 (fun k x hx => ho _ (I.2.2.1 k x hx).lt)) (fun k x hx => ?_)
    have hk : k < 1 := (List.getElem?_eq_some_iff.mp hx).1
    rw [show k = 0 by omega] at hx
    cases hx
    rw [hb]
    exact hP
  rw [zws_push rfl] at hp
  refine ⟨I.1, I.2.1, hp, ⟨Nat.le_trans I.2.2.2.1.1 (by omega), fun x h1 h2 => (ho x (Nat.lt_of_lt_of_le h1 I.2.2.2.1.1)).trans (I.2.2.2.1.2.1 x h1 h2), I.2.2.2.1.2.2⟩, by rw [hz, hzn, I.2.2.2.2.1]; omega, by omega, I.2.2.2.2.2.2.1, fun x hx => ?_⟩
  show ((zal M t n).2.1 x).1 = 0
  have h1 : ¬ x = M.1.1 := by
    have : zn M = M.1.1 := rfl
    omega
  unfold zal
  simp only [if_neg h1]
  exact I.2.2.2.2.2.2.2 x (by omega)
theorem zal_sh {M : zMem} {t n : Nat} : zsh (zal M t n) (zn M) = (t, n) := by simp [zsh, zal, zn]
theorem zw_newa {l : Launch} {k : zMeth} {X : Nat × Nat} {M : zMem} {pc : Nat} {L : List (Option Value)} {S : List Value} {Q : Option Value → zMem → Prop} {n : Int32} {N : Nat} {t : Nat} {atype : ArrayType} (ht : (t = 1 ∧ atype = .int) ∨ (t = 2 ∧ atype = .long)) (hn : ¬ n < 0) (hN : n.toNatClampNeg = N) (hb : N ≤ 65536) (hm : zn M < 1000000) (h1 : zn M + 1 ≤ X.1) (h2 : zw M + N ≤ X.2) (hd : decode (zb k) pc = .ok (.newarray atype, 2)) (kk : zW l k X (zal M t N) (pc + 2) L (.ref (zn M) :: S) Q) : zW l k X M pc L (.int n :: S) Q := by
  intro p e R s m args below meth c D cI cJ ad adV n0 w0 H locs ls Qm C I hl hc hf
  have hb' : ad (zn M) = H.size := by rw [I.2.2.2.2.2.2.1 _ hm, I.2.2.2.2.1]
  have hsz : zsh (zal M t N) (zn M) = (t, N) := zal_sh
  have go : ∀ (H' : Heap), va_at D zcl (H.size, zE cI cJ ad (zal M t N) (zn M)) H' → H'.size = H.size + 1 → (∀ q, q < H.size → H'[q]? = H[q]?) → W p l e R s m args below meth c H' locs (zn M - n0 + 1) (zw M - w0 + N) Qm (F0 m (pc + 2) ls (.ref H.size :: S.map (zv ad))) := by
    intro H' g1 g2 g3
    have hk := kk p e R s m args below meth c D cI cJ ad adV n0 w0 H' locs ls Qm C (zI_push I hm g1 g2 g3) hl (by
      have a1 : zn (zal M t N) = zn M + 1 := rfl
      have a2 : zw (zal M t N) = zw M + N := rfl
      omega) (fun r M' H' locs' pc' ls' b1 b2 b3 b4 => hf r M' H' locs' pc' ls' b1 b2 b3 (by
      have a1 : zn (zal M t N) = zn M + 1 := rfl
      have a2 : zw (zal M t N) = zw M + N := rfl
      omega))
    have a1 : zn (zal M t N) - n0 = zn M - n0 + 1 := by
      show zn M + 1 - n0 = _
      omega
    have a2 : zw (zal M t N) - w0 = zw M - w0 + N := by
      show zw M + N - w0 = _
      omega
    rw [a1, a2] at hk
    have e1 : ((.ref (zn M) :: S : List Value).map (zv ad)) = .ref H.size :: S.map (zv ad) := by
      rw [← hb']; rfl
    rw [e1] at hk
    exact hk
  rcases ht with ⟨rfl, rfl⟩ | ⟨rfl, rfl⟩
  · refine va_newaK C.1 C.2.1 (atype := .int) (C.2.2.2.2.1 _ z_ac.1) rfl hd rfl hn hN (by show N * 4 ≤ 536870912; omega) (by omega) (by omega) rfl (fun H' cA g1 g2 g3 g4 g5 => ?_)
    have hcA : cA = cI := by
      have h9 : s.vm.findClass ("[" ++ FieldType.int.toString) = some cI := (I.1.1.2 0 _ rfl).2
      exact Option.some.inj (g5.symm.trans h9)
    subst hcA
    refine go H' ?_ g2 g3
    rw [zE_int hsz]
    show H'[H.size]? = some (vp_cell _ _)
    rw [g1, vp_cell_i]
    congr 2
    funext y
    simp [zi, zal, zn]
    rfl
  · refine va_newaK C.1 C.2.1 (atype := .long) (C.2.2.2.2.1 _ z_ac.2) rfl hd rfl hn hN (by show N * 8 ≤ 536870912; omega) (by omega) (by omega) rfl (fun H' cA g1 g2 g3 g4 g5 => ?_)
    have hcA : cA = cJ := by
      have h9 : s.vm.findClass ("[" ++ FieldType.long.toString) = some cJ := (I.1.1.2 1 _ rfl).2
      exact Option.some.inj (g5.symm.trans h9)
    subst hcA
    refine go H' ?_ g2 g3
    rw [zE_long hsz]
    show H'[H.size]? = some (vp_cell _ _)
    rw [g1, vp_cell_l]
    congr 2
    funext y
    simp [zj, zal, zn]
    rfl
theorem zw_new {l : Launch} {k : zMeth} {X : Nat × Nat} {M : zMem} {pc : Nat} {L : List (Option Value)} {S : List Value} {Q : Option Value → zMem → Prop} {ix ci : Nat} (hci : ci < 12) (hcl : Cond.classLink (zR (zo k)) ix (zR ci) ∈ z_tbl) (hm : zn M < 1000000) (h1 : zn M + 1 ≤ X.1) (h2 : zw M + zN ci ≤ X.2) (hdf : ∀ j, j < zN ci → defaultValue (zY ci j) = if zG ci j = 0 then .int 0 else if zG ci j = 1 then .long 0 else .null) (hd : decode (zb k) pc = .ok (.new ix, 3)) (kk : zW l k X (zal M (ci + 3) (zN ci)) (pc + 3) L (.ref (zn M) :: S) Q) : zW l k X M pc L S Q := by
  intro p e R s m args below meth c D cI cJ ad adV n0 w0 H locs ls Qm C I hl hc hf
  have hb' : ad (zn M) = H.size := by rw [I.2.2.2.2.2.2.1 _ hm, I.2.2.2.2.1]
  have hsz : zsh (zal M (ci + 3) (zN ci)) (zn M) = (ci + 3, zN ci) := zal_sh
  have hKn := I.1.1.1 ci _ (z_cl ci hci)
  refine W.newcK C.1 C.2.1 C.2.2.2.1 (C.2.2.2.2.1 _ hcl) (C.2.2.2.2.1 _ (z_ia ci hci)) (C.2.2.2.2.1 _ (z_ini ci (by omega))) rfl hd (by omega) (by omega) hKn.2.1 rfl (fun H' kC hkC g1 g2 g3 => ?_)
  have hk := kk p e R s m args below meth c D cI cJ ad adV n0 w0 H' locs ls Qm C (zI_push I hm (by
      rw [zE_obj (by rw [hsz])]
      refine ⟨_, z_cl ci hci, (u_born (zY ci) C.2.2.2.2.1 (z_in ci hci) hKn hkC g1 (z_ty ci hci)).to (fun j hj => ?_)⟩
      rw [hdf j hj]
      show _ = (zFs ad _ _ ci).getD j .null
      rw [List.getD_eq_getElem?_getD, zFs_get hj]
      simp [zV, zi, zj, zf, zal, zn, va_rf]) g2 g3) hl (by
      have a1 : zn (zal M (ci + 3) (zN ci)) = zn M + 1 := rfl
      have a2 : zw (zal M (ci + 3) (zN ci)) = zw M + zN ci := rfl
      omega) (fun r M' H' locs' pc' ls' b1 b2 b3 b4 => hf r M' H' locs' pc' ls' b1 b2 b3 (by
      have a1 : zn (zal M (ci + 3) (zN ci)) = zn M + 1 := rfl
      have a2 : zw (zal M (ci + 3) (zN ci)) = zw M + zN ci := rfl
      omega))
  have a1 : zn (zal M (ci + 3) (zN ci)) - n0 = zn M - n0 + 1 := by
    show zn M + 1 - n0 = _
    omega
  have a2 : zw (zal M (ci + 3) (zN ci)) - w0 = zw M - w0 + zN ci := by
    show zw M + zN ci - w0 = _
    omega
  rw [a1, a2] at hk
  have e1 : ((.ref (zn M) :: S : List Value).map (zv ad)) = .ref H.size :: S.map (zv ad) := by
    rw [← hb']; rfl
  rw [e1] at hk
  exact hk
def zLk (own ix : Nat) (k : zMeth) : Prop := Cond.methodLink (zR own) ix (zy k) ∈ z_tbl ∨ ∃ host, Cond.methodLinkNest (zR own) ix (zy k) host ∈ z_nst
def zMLV (own ix : Nat) (k : zMeth) : Prop := zLk own ix k ∧ Cond.instanceMethod (zy k) ∈ z_tbl ∧ Cond.selects (zR (zo k)) (zy k) (zy k) ∈ z_tbl ∧ zMd k
def zMLS (own ix : Nat) (k : zMeth) : Prop := zLk own ix k ∧ Cond.static (zy k) ∈ z_tbl ∧ zMd k
def zMLI (own ix : Nat) (k : zMeth) : Prop := zLk own ix k ∧ Cond.instanceMethod (zy k) ∈ z_tbl ∧ (zy k).name = "<init>" ∧ zr k = none ∧ zMd k
section ZRUN
variable {p : Program} {l : Launch} {e : Env} {R : Room} {s : State} {m : MethodId} {args : Array Value} {below : List Frame} {meth : Method} {c : Code} {H : Heap} {locs : List Loc} {cells slots : Nat} {Qm : State → Prop} {D : va_G} {cI cJ : ClassId} {ad adV : Nat → Nat}
theorem z_ran {M : zMem} {mc ms pc : Nat} {ls : Array Slot} {st0 rest : List Value} {a : Array Value} {Q : Option Value → zMem → Prop} (hr : va_Run p l e R s m args below meth c H locs cells slots mc ms (F0 m pc ls st0) rest (zQc D cI cJ ad M mc ms Q a) (fun q => ad 0 ≤ q)) (I : zI D cI cJ ad adV M s H locs)
    (kk : ∀ (r : Option Value) (M' : zMem) (H1 : Heap) (locs1 : List Loc), Q r M' → zn M' = zn M + mc → zw M' = zw M + ms → zI D cI cJ ad adV M' s H1 locs1 → W p l e R s m args below meth c H1 locs1 (cells + mc) (slots + ms) Qm (F0 m (pc + 3) ls ((r.map (zv ad)).toList ++ rest))) : W p l e R s m args below meth c H locs cells slots Qm (F0 m pc ls st0) := by
  intro T hT X
  obtain ⟨v, st₀, t, T', L, h0, X', hL, e1, e2, ⟨⟨r, M', hv, hq, hP, hsz, hok, hn, hw⟩, hz, hk⟩, st⟩ := hr T hT X
  cases hv
  rw [h0] at hz hk
  have hS := I.2.2.2.1
  obtain ⟨t2, a1, b1⟩ := kk r M' T'.heap (locs ++ L) hq hn hw ⟨I.1, I.2.1, by rw [e1]; exact hP, ⟨Nat.le_trans hS.1 (by rw [e1]; exact hz), fun q h1 h2 => by rw [e1, hk q (Nat.lt_of_lt_of_le h1 hS.1) h2]; exact hS.2.1 q h1 h2, fun q hq => by
      rcases List.mem_append.mp hq with h | h
      · exact hS.2.2 q h
      · exact hL q h⟩, by rw [e1]; exact hsz, hok⟩ T' rfl X'
  exact ⟨t2, st t2 a1, b1⟩
theorem z_callB {k k' : zMeth} {ix mc ms : Nat} (C : zCtx p R s m args meth c k) (hl : Cond.methodLink (zR (zo k)) ix (zy k') ∈ z_tbl) (hM : zMd k') (hR : zF k' + 1 ≤ zF k ∧ 8 + (zl k' + 11) + zLo k' ≤ zLo k) : CallB R s args (zR (zo k)) ix (zy k') (zb k') (zl k') (zr k') (zwk k') ({ frames := zF k', cells := mc, slots := ms, locals := zLo k' }) mc ms (zna k') :=
  callB_of (zna k') C.2.2.2.2.1 (zwk_good hM) rfl rfl rfl (by rw [hM.2.1]; exact C.2.2.2.2.1 _ (z_ini _ hM.2.2.1)) (C.2.2.2.2.1 _ hl) ⟨hM.2.2.2.1, hM.2.2.2.2.1, hM.2.2.2.2.2.1⟩ ⟨Nat.le_trans hR.1 C.2.2.2.2.2.2.2.2.1, Nat.le_trans hR.2 C.2.2.2.2.2.2.2.2.2⟩
theorem z_callN {k k' : zMeth} {ix mc ms : Nat} {host : String} (C : zCtx p R s m args meth c k) (hN : va_Nw (.methodLinkNest (zR (zo k)) ix (zy k') host) s) (hM : zMd k') (hR : zF k' + 1 ≤ zF k ∧ 8 + (zl k' + 11) + zLo k' ≤ zLo k) : va_CN R s args (zR (zo k)) ix (zy k') host (zb k') (zl k') (zr k') (zwk k') ({ frames := zF k', cells := mc, slots := ms, locals := zLo k' }) mc ms (zna k') :=
  va_cnB (zna k') C.2.2.2.2.1 (zwk_good hM) rfl rfl rfl hN (by rw [hM.2.1]; exact C.2.2.2.2.1 _ (z_ini _ hM.2.2.1)) ⟨hM.2.2.2.1, hM.2.2.2.2.1, hM.2.2.2.2.2.1⟩ ⟨Nat.le_trans hR.1 C.2.2.2.2.2.2.2.2.1, Nat.le_trans hR.2 C.2.2.2.2.2.2.2.2.2⟩
end ZRUN
theorem z_stk {ad : Nat → Nat} {vs rest : List Value} {b : Nat} : (vs.reverse ++ .ref b :: rest).map (zv ad) = (vs.map (zv ad)).reverse ++ .ref (ad b) :: rest.map (zv ad) := by
  simp [List.map_append, List.map_reverse, zv]
theorem z_stkS {ad : Nat → Nat} {vs rest : List Value} : (vs.reverse ++ rest).map (zv ad) = (vs.map (zv ad)).reverse ++ rest.map (zv ad) := by
  simp [List.map_append, List.map_reverse]
theorem z_top {ad : Nat → Nat} (r : Option Value) (rest : List Value) : (r.map (zv ad)).toList ++ rest.map (zv ad) = (r.toList ++ rest).map (zv ad) := by cases r <;> simp
theorem zw_callV {l : Launch} {k k' : zMeth} {X : Nat × Nat} {M : zMem} {pc : Nat} {L : List (Option Value)} {S : List Value} {Q Q' : Option Value → zMem → Prop} {ix mc ms b : Nat} (vs rest : List Value) (hl' : zMLV (zo k) ix k') (hC : zC l k' mc ms (.ref b :: vs) M Q') (hS : S = vs.reverse ++ .ref b :: rest) (hn : vs.length = zna k') (hb : (zsh M b).1 = zo k' + 3) (h12 : zo k' < 12) (hR : zF k' + 1 ≤ zF k ∧ 8 + (zl k' + 11) + zLo k' ≤ zLo k) (hX : zn M + mc ≤ X.1 ∧ zw M + ms ≤ X.2) (hc8 : (rest.map fun v => v.category).sum ≤ 8) (hd : decode (zb k) pc = .ok (.invokevirtual ix, 3))
    (kk : ∀ (r : Option Value) (M' : zMem), Q' r M' → zn M' = zn M + mc → zw M' = zw M + ms → zW l k X M' (pc + 3) L (r.toList ++ rest) Q) : zW l k X M pc L S Q := by
  intro p e R s m args below meth c D cI cJ ad adV n0 w0 H locs ls Qm C I hl hc hf
  subst hS
  obtain ⟨hlk, hin, hse, hM⟩ := hl'
  have hlt : b < zn M := zOK_lt I.2.2.2.2.2 (t := zo k' + 2) (by omega)
  have he : (zws cI cJ ad M)[b]? = some (ad b, .inr (zo k', zFs ad M b (zo k'))) := by rw [zws_get hlt, zE_obj hb]
  have hrec := va_recv I.1.1 I.2.2.1 (z_cl _ h12) he
  have hPre : PreV s H (zR (zo k')) (ad b) (va_Pc ((.ref b :: vs : List Value).map (zv ad)) (zIe D cI cJ ad adV M)) (vs.map (zv ad)) := ⟨zIe_blind, hrec, fun U hU hW => ⟨rfl, zIe_of I hU hW⟩⟩
  have fin : ∀ (r : Option Value) (M' : zMem) (H1 : Heap) (locs1 : List Loc), Q' r M' → zn M' = zn M + mc → zw M' = zw M + ms → zI D cI cJ ad adV M' s H1 locs1 → W p l e R s m args below meth c H1 locs1 (zn M - n0 + mc) (zw M - w0 + ms) Qm (F0 m (pc + 3) ls ((r.map (zv ad)).toList ++ rest.map (zv ad))) := by
    intro r M' H1 locs1 q1 q2 q3 q4
    have hk := kk r M' q1 q2 q3 p e R s m args below meth c D cI cJ ad adV n0 w0 H1 locs1 ls Qm C q4 hl (by omega) (fun r M' H' locs' pc' ls' b1 b2 b3 b4 => hf r M' H' locs' pc' ls' b1 b2 b3 (by omega))
    rw [z_top, show zn M - n0 + mc = zn M' - n0 by omega, show zw M - w0 + ms = zw M' - w0 by omega]
    exact hk
  rw [z_stk]
  rcases hlk with hlk | ⟨host, hlk⟩
  · exact z_ran (va_runV (Ts := z_tbl) (C := zR (zo k')) ⟨C.1, C.2.1, C.2.2.1, C.2.2.2.1, C.2.2.2.2.1⟩ (hC D cI cJ ad adV) ⟨z_callB C hlk hM hR, C.2.2.2.2.1 _ hin, C.2.2.2.2.1 _ hse⟩ hPre rfl (by rw [List.length_map]; exact hn) hl.1 rfl (lv_room (by rw [zv_cats]; exact hc8)) hd ⟨by omega, by omega⟩) I fin
  · exact z_ran (va_runVN (Ts := z_tbl) (C := zR (zo k')) ⟨C.1, C.2.1, C.2.2.1, C.2.2.2.1, C.2.2.2.2.1⟩ (hC D cI cJ ad adV) ⟨z_callN C (I.1.2.1 _ hlk) hM hR, C.2.2.2.2.1 _ hin, C.2.2.2.2.1 _ hse⟩ hPre rfl (by rw [List.length_map]; exact hn) hl.1 rfl (lv_room (by rw [zv_cats]; exact hc8)) hd ⟨by omega, by omega⟩) I fin
theorem zw_callS {l : Launch} {k k' : zMeth} {X : Nat × Nat} {M : zMem} {pc : Nat} {L : List (Option Value)} {S : List Value} {Q Q' : Option Value → zMem → Prop} {ix mc ms : Nat} (vs rest : List Value) (hl' : zMLS (zo k) ix k') (hC : zC l k' mc ms vs M Q') (hS : S = vs.reverse ++ rest) (hn : vs.length = zna k') (hR : zF k' + 1 ≤ zF k ∧ 8 + (zl k' + 11) + zLo k' ≤ zLo k) (hX : zn M + mc ≤ X.1 ∧ zw M + ms ≤ X.2) (hc8 : (rest.map fun v => v.category).sum ≤ 8) (hd : decode (zb k) pc = .ok (.invokestatic ix, 3))
    (kk : ∀ (r : Option Value) (M' : zMem), Q' r M' → zn M' = zn M + mc → zw M' = zw M + ms → zW l k X M' (pc + 3) L (r.toList ++ rest) Q) : zW l k X M pc L S Q := by
  intro p e R s m args below meth c D cI cJ ad adV n0 w0 H locs ls Qm C I hl hc hf
  subst hS
  obtain ⟨hlk, hst, hM⟩ := hl'
  have hPre : PreS s H (va_Pc (vs.map (zv ad)) (zIe D cI cJ ad adV M)) (vs.map (zv ad)) := ⟨zIe_blind, fun U hU hW => ⟨rfl, zIe_of I hU hW⟩⟩
  have fin : ∀ (r : Option Value) (M' : zMem) (H1 : Heap) (locs1 : List Loc), Q' r M' → zn M' = zn M + mc → zw M' = zw M + ms → zI D cI cJ ad adV M' s H1 locs1 → W p l e R s m args below meth c H1 locs1 (zn M - n0 + mc) (zw M - w0 + ms) Qm (F0 m (pc + 3) ls ((r.map (zv ad)).toList ++ rest.map (zv ad))) := by
    intro r M' H1 locs1 q1 q2 q3 q4
    have hk := kk r M' q1 q2 q3 p e R s m args below meth c D cI cJ ad adV n0 w0 H1 locs1 ls Qm C q4 hl (by omega) (fun r M' H' locs' pc' ls' b1 b2 b3 b4 => hf r M' H' locs' pc' ls' b1 b2 b3 (by omega))
    rw [z_top, show zn M - n0 + mc = zn M' - n0 by omega, show zw M - w0 + ms = zw M' - w0 by omega]
    exact hk
  rw [z_stkS]
  rcases hlk with hlk | ⟨host, hlk⟩
  · exact z_ran (va_runS (Ts := z_tbl) ⟨C.1, C.2.1, C.2.2.1, C.2.2.2.1, C.2.2.2.2.1⟩ (hC D cI cJ ad adV) ⟨z_callB C hlk hM hR, C.2.2.2.2.1 _ hst⟩ hPre rfl (by rw [List.length_map]; exact hn) hl.1 rfl (lv_room (by rw [zv_cats]; exact hc8)) hd ⟨by omega, by omega⟩) I fin
  · exact z_ran (va_runSN (Ts := z_tbl) ⟨C.1, C.2.1, C.2.2.1, C.2.2.2.1, C.2.2.2.2.1⟩ (hC D cI cJ ad adV) ⟨z_callN C (I.1.2.1 _ hlk) hM hR, C.2.2.2.2.1 _ hst, trivial⟩ hPre rfl (by rw [List.length_map]; exact hn) hl.1 rfl (lv_room (by rw [zv_cats]; exact hc8)) hd ⟨by omega, by omega⟩) I fin
theorem zw_callI {l : Launch} {k k' : zMeth} {X : Nat × Nat} {M : zMem} {pc : Nat} {L : List (Option Value)} {S : List Value} {Q Q' : Option Value → zMem → Prop} {ix mc ms b : Nat} (vs rest : List Value) (hl' : zMLI (zo k) ix k') (hC : zC l k' mc ms (.ref b :: vs) M Q') (hS : S = vs.reverse ++ .ref b :: rest) (hn : vs.length = zna k') (hR : zF k' + 1 ≤ zF k ∧ 8 + (zl k' + 11) + zLo k' ≤ zLo k) (hX : zn M + mc ≤ X.1 ∧ zw M + ms ≤ X.2) (hc8 : (rest.map fun v => v.category).sum ≤ 8) (hd : decode (zb k) pc = .ok (.invokespecial ix, 3))
    (kk : ∀ (r : Option Value) (M' : zMem), Q' r M' → zn M' = zn M + mc → zw M' = zw M + ms → zW l k X M' (pc + 3) L (r.toList ++ rest) Q) : zW l k X M pc L S Q := by
  intro p e R s m args below meth c D cI cJ ad adV n0 w0 H locs ls Qm C I hl hc hf
  subst hS
  obtain ⟨hlk, hin, hy1, hret, hM⟩ := hl'
  have hPre : PreS s H (va_Pc ((.ref b :: vs : List Value).map (zv ad)) (zIe D cI cJ ad adV M)) (.ref (ad b) :: vs.map (zv ad)) := ⟨zIe_blind, fun U hU hW => ⟨rfl, zIe_of I hU hW⟩⟩
  have fin : ∀ (r : Option Value) (M' : zMem) (H1 : Heap) (locs1 : List Loc), Q' r M' → zn M' = zn M + mc → zw M' = zw M + ms → zI D cI cJ ad adV M' s H1 locs1 → W p l e R s m args below meth c H1 locs1 (zn M - n0 + mc) (zw M - w0 + ms) Qm (F0 m (pc + 3) ls ((r.map (zv ad)).toList ++ rest.map (zv ad))) := by
    intro r M' H1 locs1 q1 q2 q3 q4
    have hk := kk r M' q1 q2 q3 p e R s m args below meth c D cI cJ ad adV n0 w0 H1 locs1 ls Qm C q4 hl (by omega) (fun r M' H' locs' pc' ls' b1 b2 b3 b4 => hf r M' H' locs' pc' ls' b1 b2 b3 (by omega))
    rw [z_top, show zn M - n0 + mc = zn M' - n0 by omega, show zw M - w0 + ms = zw M' - w0 by omega]
    exact hk
  rw [z_stk]
  rcases hlk with hlk | ⟨host, hlk⟩
  · have hB := z_callB (mc := mc) (ms := ms) C hlk hM hR
    rw [hret] at hB
    exact z_ran (va_runI (Ts := z_tbl) ⟨C.1, C.2.1, C.2.2.1, C.2.2.2.1, C.2.2.2.2.1⟩ (hC D cI cJ ad adV) ⟨hB, hy1, C.2.2.2.2.1 _ hin⟩ hPre rfl (by rw [List.length_map]; exact hn) hl.1 rfl (lv_room (by rw [zv_cats]; exact hc8)) hd ⟨by omega, by omega⟩) I fin
  · have hB := z_callN (mc := mc) (ms := ms) C (I.1.2.1 _ hlk) hM hR
    rw [hret] at hB
    exact z_ran (va_runIN (Ts := z_tbl) ⟨C.1, C.2.1, C.2.2.1, C.2.2.2.1, C.2.2.2.2.1⟩ (hC D cI cJ ad adV) ⟨hB, hy1, C.2.2.2.2.1 _ hin⟩ hPre rfl (by rw [List.length_map]; exact hn) hl.1 rfl (lv_room (by rw [zv_cats]; exact hc8)) hd ⟨by omega, by omega⟩) I fin
theorem zw_objInit {l : Launch} {k : zMeth} {X : Nat × Nat} {M : zMem} {pc : Nat} {L : List (Option Value)} {S : List Value} {Q : Option Value → zMem → Prop} {ix b : Nat} (hlk : Cond.methodLink (zR (zo k)) ix Lib.objectInit ∈ z_tbl) (hin : Cond.instanceMethod Lib.objectInit ∈ z_tbl) (hco : Cond.code Lib.objectInit ⟨#[0xb1]⟩ 1 none ∈ z_tbl) (hR : 1 ≤ zF k ∧ 20 ≤ zLo k) (hc8 : (S.map fun v => v.category).sum ≤ 8) (hd : decode (zb k) pc = .ok (.invokespecial ix, 3)) (kk : zW l k X M (pc + 3) L S Q) : zW l k X M pc L (.ref b :: S) Q := by
  intro p e R s m args below meth c D cI cJ ad adV n0 w0 H locs ls Qm C I hl hc hf
  have h8 := lv_room (m := m) (pc := pc) (ls := ls) (rest := []) (st := S.map (zv ad)) (by rw [zv_cats]; exact hc8)
  refine W.objInit C.1 C.2.1 C.2.2.2.1 (C.2.2.2.2.1 _ hlk) (C.2.2.2.2.1 _ hin) (C.2.2.2.2.1 _ hco) rfl (hl.1.trans C.2.2.1.symm) rfl hd (Nat.le_trans hR.1 C.2.2.2.2.2.2.2.2.1) (by
    have a1 := C.2.2.2.2.2.2.2.2.2
    have a2 := hR.2
    exact Nat.le_trans (Nat.add_le_add_right h8 12) (Nat.le_trans a2 a1)) ?_
  exact kk p e R s m args below meth c D cI cJ ad adV n0 w0 H locs ls Qm C I hl hc hf
def zent : List Value → List (Option Value)
  | [] => []
  | v :: vs => match zlong (some v) with
    | true => some v :: none :: zent vs
    | false => some v :: zent vs
theorem zlong_two {v : Value} (h : zlong (some v) = true) : v.category = 2 := by cases v <;> simp_all [zlong, Value.category]
theorem zent_args {ad : Nat → Nat} (n : Nat) : ∀ (vs : List Value) (i : Nat), zlv ad i (zent vs ++ List.replicate n none) = lv_args i (vs.map (zv ad))
  | [], i => by
    induction n generalizing i with
    | zero => rfl
    | succ n ih => exact ih (i + 1)
  | v :: vs, i => by
    have ih := zent_args (ad := ad) n vs
    have e : zent (v :: vs) = match zlong (some v) with | true => some v :: none :: zent vs | false => some v :: zent vs := rfl
    rw [List.map_cons, lv_args, zv_cat, e]
    cases hz : zlong (some v) with
    | true =>
      rw [if_pos (zlong_two hz)]
      show (i, zv ad v) :: zlv ad (i + 1 + 1) (zent vs ++ List.replicate n none) = _
      rw [ih]
    | false =>
      rw [if_neg (zlong_cat hz)]
      show (i, zv ad v) :: zlv ad (i + 1) (zent vs ++ List.replicate n none) = _
      rw [ih]
theorem zent_len {ad : Nat → Nat} : ∀ (vs : List Value), (lg_sl (vs.map (zv ad))).length = (zent vs).length
  | [] => rfl
  | v :: vs => by
    have ih := zent_len (ad := ad) vs
    rw [List.map_cons]
    unfold lg_sl at ih ⊢
    have e : zent (v :: vs) = match zlong (some v) with | true => some v :: none :: zent vs | false => some v :: zent vs := rfl
    rw [List.flatMap_cons, List.length_append, zv_cat, ih, e]
    cases hz : zlong (some v) with
    | true =>
      rw [if_pos (zlong_two hz)]
      simp only [List.length_cons, List.length_nil]
      omega
    | false =>
      rw [if_neg (zlong_cat hz)]
      simp only [List.length_cons, List.length_nil]
      omega
theorem zC_of {l : Launch} {k : zMeth} {mc ms : Nat} {vs : List Value} {M : zMem} {Q : Option Value → zMem → Prop} {L0 : List (Option Value)} (hM : zMd k) (hlen : (zent vs).length ≤ zl k) (hL : zent vs ++ List.replicate (zl k - (zent vs).length) none = L0) (h : zW l k (zn M + mc, zw M + ms) M 0 L0 [] Q) (hQ : ∀ (r : Option Value) (M' : zMem), Q r M' → zn M ≤ zn M' ∧ zn M' ≤ zn M + mc ∧ zw M ≤ zw M' ∧ zw M' ≤ zw M + ms → zn M' = zn M + mc ∧ zw M' = zw M + ms) : zC l k mc ms vs M Q := by
  intro D cI cJ ad adV
  refine Met.ofW (cc := zb k) (maxL := zl k) (ret := zr k) hM.2.2.2.2.2.2 rfl ?_
  intro p e s m args below meth c s₁ B hml hv
  obtain ⟨rfl, hI⟩ := hv
  have I : zI D cI cJ ad adV M s s.heap [] := ⟨hI.1, by rw [hI.2.2.1]; omega, hI.2.1, va_S.rf, hI.2.2.1, hI.2.2.2⟩
  have hts := atoms_spec (ws := zwk k) B.pre
  have hown : s.vm.findClass (zR (zo k)) = some m.cls := hM.2.1 ▸ findClass_of_methodNamed B.named
  have C : zCtx p (headSpec (zwk k) ({ frames := zF k, cells := mc, slots := ms, locals := zLo k })).room s m (vs.map (zv ad)).toArray meth c k := ⟨B.exec, B.bytes, hml, hown, fun w hw => hts w (List.mem_cons_of_mem _ hw), B.returns, B.notSynchronized, (name_of_methodNamed B.named B.method).1, Nat.le_refl _, Nat.le_refl _⟩
  rw [lg_entry_eq]
  have hl0 := lv_entry (vs.map (zv ad)) (n := zl k) (by rw [zent_len]; exact hlen)
  rw [← zent_args (zl k - (zent vs).length), hL] at hl0
  have hw := h p e _ s m _ below meth c D cI cJ ad adV (zn M) (zw M) s.heap [] _ (MQ below (zQc D cI cJ ad M mc ms Q) (vs.map (zv ad)).toArray s mc ms (fun q => ad 0 ≤ q)) C I hl0 ⟨Nat.le_refl _, Nat.le_add_right _ _, Nat.le_refl _, Nat.le_refl _, Nat.le_add_right _ _, Nat.le_refl _⟩ (fun r M' H' locs' pc' ls' hq hret I' hcnt => by
    obtain ⟨g1, g2⟩ := hQ r M' hq hcnt
    have hpost : ∀ t : State, t.heap = H' → zQc D cI cJ ad M mc ms Q (vs.map (zv ad)).toArray s (.returned (r.map (zv ad))) t := fun t ht => ⟨⟨r, M', rfl, hq, by rw [ht]; exact I'.2.2.1, by rw [ht]; exact I'.2.2.2.2.1, I'.2.2.2.2.2, g1, g2⟩, va_S.F I'.2.2.2.1 ht⟩
    rw [show zn M' - zn M = mc by omega, show zw M' - zw M = ms by omega]
    rcases hret with ⟨v, ty, rfl, hd, hr, hn⟩ | ⟨v, rfl, hd, hr⟩ | ⟨rfl, hd, hr⟩
    · exact W.zret B.exec B.bytes (B.returns.trans hr) hn (fun t ht _ => hpost t ht) I'.2.2.2.1.2.2 hd
    · exact W.lret B.exec B.bytes (B.returns.trans hr) (fun t ht _ => hpost t ht) I'.2.2.2.1.2.2 hd
    · exact W.vret B.exec B.bytes (B.returns.trans hr) (fun t ht _ => hpost t ht) I'.2.2.2.1.2.2 hd)
  rw [Nat.sub_self, Nat.sub_self] at hw
  exact hw
theorem zW_less {l : Launch} {k : zMeth} {X : Nat × Nat} {M : zMem} {pc : Nat} {L L2 : List (Option Value)} {S : List Value} {Q : Option Value → zMem → Prop} (hL : ∀ (i : Nat) (v : Value), L2[i]? = some (some v) → L[i]? = some (some v)) (h : zW l k X M pc L2 S Q) : zW l k X M pc L S Q := by
  intro p e R s m args below meth c D cI cJ ad adV n0 w0 H locs ls Qm C I hl hc hf
  refine h p e R s m args below meth c D cI cJ ad adV n0 w0 H locs ls Qm C I (lv_less hl fun q hq => ?_) hc hf
  obtain ⟨j, v, h1, rfl⟩ := (zlv_mem L2 0 q).mp hq
  exact (zlv_mem L 0 _).mpr ⟨j, v, hL j v h1, rfl⟩
