def zdal (b : ByteArray) : List (Nat × (Jvm.ClassFile.Instr × Nat)) → Bool
  | [] => true
  | e :: l => decide (decode b e.1 = .ok e.2) && zdal b l
theorem zdal_m {b : ByteArray} : ∀ {l : List (Nat × (Jvm.ClassFile.Instr × Nat))} {i : Nat} {e : Nat × (Jvm.ClassFile.Instr × Nat)}, zdal b l = true → l[i]? = some e → decode b e.1 = .ok e.2
  | [], i, e, _, he => by
    rw [List.getElem?_nil] at he
    cases he
  | x :: l, 0, e, h, he => by
    have he2 : some x = some e := he
    have h2 : (decide (decode b x.1 = .ok x.2) && zdal b l) = true := h
    rw [Bool.and_eq_true] at h2
    rw [← Option.some.inj he2]
    exact of_decide_eq_true h2.1
  | x :: l, i + 1, e, h, he => by
    have he2 : l[i]? = some e := he
    have h2 : (decide (decode b x.1 = .ok x.2) && zdal b l) = true := h
    rw [Bool.and_eq_true] at h2
    exact zdal_m h2.2 he2
theorem zdal_p {b : ByteArray} {l : List (Nat × (Jvm.ClassFile.Instr × Nat))} {i pc : Nat} {r : Jvm.ClassFile.Instr × Nat} (h : zdal b l = true) (he : l[i]? = some (pc, r)) : decode b pc = .ok r := zdal_m (e := (pc, r)) h he
def zDag (b c : ByteArray) (p : Nat) : Prop := ∀ i, i < c.size → ∃ (h1 : i < c.size) (h2 : p + i < b.size), b[p + i] = c[i]
def zDc {α : Type} (r r' : Jvm.ClassFile.Decoder α) : Prop := ∀ (b c : ByteArray) (p : Nat), zDag b c p → ∀ (q : Nat) (z : α × Nat), Jvm.ClassFile.Reader.runAt r c q = .ok z → Jvm.ClassFile.Reader.runAt r' b (p + q) = .ok (z.1, p + z.2)
theorem zDbo {α β : Type} {r : Jvm.ClassFile.Decoder α} {f : α → Jvm.ClassFile.Decoder β} {c : ByteArray} {q : Nat} {z : α × Nat} (h : Jvm.ClassFile.Reader.runAt r c q = .ok z) : Jvm.ClassFile.Reader.runAt (r >>= f) c q = Jvm.ClassFile.Reader.runAt (f z.1) c z.2 := by
  show Except.bind (Jvm.ClassFile.Reader.runAt r c q) _ = _
  rw [h]
  rfl
theorem zDbe {α β : Type} {r : Jvm.ClassFile.Decoder α} {f : α → Jvm.ClassFile.Decoder β} {c : ByteArray} {q : Nat} {e : Jvm.ClassFile.DecodeError} (h : Jvm.ClassFile.Reader.runAt r c q = .error e) : Jvm.ClassFile.Reader.runAt (r >>= f) c q = .error e := by
  show Except.bind (Jvm.ClassFile.Reader.runAt r c q) _ = _
  rw [h]
  rfl
theorem zDu1o {c : ByteArray} {q : Nat} (h : q < c.size) : Jvm.ClassFile.Reader.runAt (Jvm.ClassFile.Reader.u1 : Jvm.ClassFile.Decoder Nat) c q = .ok (c[q].toNat, q + 1) := by
  show (if h : q < c.size then (do set (q + 1); pure (c[q]'h).toNat : Jvm.ClassFile.Decoder Nat) else throw (Jvm.ClassFile.HasTruncated.truncated q)) c q = _
  rw [dif_pos h]
  rfl
theorem zDu1e {c : ByteArray} {q : Nat} (h : ¬ q < c.size) : Jvm.ClassFile.Reader.runAt (Jvm.ClassFile.Reader.u1 : Jvm.ClassFile.Decoder Nat) c q = .error (Jvm.ClassFile.HasTruncated.truncated q) := by
  show (if h : q < c.size then (do set (q + 1); pure (c[q]'h).toNat : Jvm.ClassFile.Decoder Nat) else throw (Jvm.ClassFile.HasTruncated.truncated q)) c q = _
  rw [dif_neg h]
  rfl
theorem zDc.pu {α : Type} (x : α) : zDc (pure x : Jvm.ClassFile.Decoder α) (pure x) := by
  intro b c p _ q z h
  have h2 : (Except.ok (x, q) : Except Jvm.ClassFile.DecodeError (α × Nat)) = .ok z := h
  injection h2 with h3
  rw [← h3]
  rfl
theorem zDc.bi {α β : Type} {r r' : Jvm.ClassFile.Decoder α} {f g : α → Jvm.ClassFile.Decoder β} (hr : zDc r r') (hf : ∀ x, zDc (f x) (g x)) : zDc (r >>= f) (r' >>= g) := by
  intro b c p ha q z h
  cases hz : Jvm.ClassFile.Reader.runAt r c q with
  | error e =>
    rw [zDbe hz] at h
    cases h
  | ok y =>
    rw [zDbo hz] at h
    rw [zDbo (hr b c p ha q y hz)]
    exact hf y.1 b c p ha y.2 z h
theorem zDc.u1 : zDc (Jvm.ClassFile.Reader.u1 : Jvm.ClassFile.Decoder Nat) Jvm.ClassFile.Reader.u1 := by
  intro b c p ha q z h
  by_cases hq : q < c.size
  · rw [zDu1o hq] at h
    injection h with h3
    obtain ⟨h1, h2, h4⟩ := ha q hq
    rw [zDu1o h2, ← h3, h4]
    rfl
  · rw [zDu1e hq] at h
    cases h
theorem zDc.mp {α β : Type} {r r' : Jvm.ClassFile.Decoder α} (g : α → β) (hr : zDc r r') : zDc (g <$> r) (g <$> r') := zDc.bi hr (fun x => zDc.pu (g x))
theorem zDc.u2 : zDc (Jvm.ClassFile.Reader.u2 : Jvm.ClassFile.Decoder Nat) Jvm.ClassFile.Reader.u2 := zDc.bi zDc.u1 (fun _ => zDc.bi zDc.u1 (fun _ => zDc.pu _))
theorem zDc.s1 : zDc (Jvm.ClassFile.Reader.s1 : Jvm.ClassFile.Decoder Int) Jvm.ClassFile.Reader.s1 := zDc.mp _ zDc.u1
theorem zDc.s2 : zDc (Jvm.ClassFile.Reader.s2 : Jvm.ClassFile.Decoder Int) Jvm.ClassFile.Reader.s2 := zDc.mp _ zDc.u2
noncomputable def zDWf : {F : Nat → Nat → Jvm.ClassFile.Decoder Jvm.ClassFile.Instr // ∀ pc, Jvm.ClassFile.Decoder.instr pc = (Jvm.ClassFile.Reader.u1 >>= F pc)} := ⟨_, fun _ => rfl⟩
def zDA (P : Nat → Prop) : List Nat → Prop
  | [] => True
  | x :: l => P x ∧ zDA P l
theorem zDA.m {P : Nat → Prop} : ∀ {l : List Nat} {x : Nat}, zDA P l → x ∈ l → P x
  | [], _, _, h => absurd h List.not_mem_nil
  | y :: l, x, h, hm => by
    rcases List.mem_cons.1 hm with he | he
    · rw [he]; exact h.1
    · exact zDA.m h.2 he
theorem zDo_2 (p : Nat) : zDc (zDWf.1 0 2) (zDWf.1 p 2) := zDc.pu _
theorem zDo_3 (p : Nat) : zDc (zDWf.1 0 3) (zDWf.1 p 3) := zDc.pu _
theorem zDo_4 (p : Nat) : zDc (zDWf.1 0 4) (zDWf.1 p 4) := zDc.pu _
theorem zDo_5 (p : Nat) : zDc (zDWf.1 0 5) (zDWf.1 p 5) := zDc.pu _
theorem zDo_6 (p : Nat) : zDc (zDWf.1 0 6) (zDWf.1 p 6) := zDc.pu _
theorem zDo_7 (p : Nat) : zDc (zDWf.1 0 7) (zDWf.1 p 7) := zDc.pu _
theorem zDo_8 (p : Nat) : zDc (zDWf.1 0 8) (zDWf.1 p 8) := zDc.pu _
theorem zDo_9 (p : Nat) : zDc (zDWf.1 0 9) (zDWf.1 p 9) := zDc.pu _
theorem zDo_10 (p : Nat) : zDc (zDWf.1 0 10) (zDWf.1 p 10) := zDc.pu _
theorem zDo_16 (p : Nat) : zDc (zDWf.1 0 16) (zDWf.1 p 16) := zDc.bi zDc.s1 (fun _ => zDc.pu _)
theorem zDo_17 (p : Nat) : zDc (zDWf.1 0 17) (zDWf.1 p 17) := zDc.bi zDc.s2 (fun _ => zDc.pu _)
theorem zDo_18 (p : Nat) : zDc (zDWf.1 0 18) (zDWf.1 p 18) := zDc.bi zDc.u1 (fun _ => zDc.pu _)
theorem zDo_19 (p : Nat) : zDc (zDWf.1 0 19) (zDWf.1 p 19) := zDc.bi zDc.u2 (fun _ => zDc.pu _)
theorem zDo_20 (p : Nat) : zDc (zDWf.1 0 20) (zDWf.1 p 20) := zDc.bi zDc.u2 (fun _ => zDc.pu _)
theorem zDo_21 (p : Nat) : zDc (zDWf.1 0 21) (zDWf.1 p 21) := zDc.bi zDc.u1 (fun _ => zDc.pu _)
theorem zDo_22 (p : Nat) : zDc (zDWf.1 0 22) (zDWf.1 p 22) := zDc.bi zDc.u1 (fun _ => zDc.pu _)
theorem zDo_25 (p : Nat) : zDc (zDWf.1 0 25) (zDWf.1 p 25) := zDc.bi zDc.u1 (fun _ => zDc.pu _)
theorem zDo_26 (p : Nat) : zDc (zDWf.1 0 26) (zDWf.1 p 26) := zDc.pu _
theorem zDo_27 (p : Nat) : zDc (zDWf.1 0 27) (zDWf.1 p 27) := zDc.pu _
theorem zDo_28 (p : Nat) : zDc (zDWf.1 0 28) (zDWf.1 p 28) := zDc.pu _
theorem zDo_29 (p : Nat) : zDc (zDWf.1 0 29) (zDWf.1 p 29) := zDc.pu _
theorem zDo_30 (p : Nat) : zDc (zDWf.1 0 30) (zDWf.1 p 30) := zDc.pu _
theorem zDo_31 (p : Nat) : zDc (zDWf.1 0 31) (zDWf.1 p 31) := zDc.pu _
theorem zDo_32 (p : Nat) : zDc (zDWf.1 0 32) (zDWf.1 p 32) := zDc.pu _
theorem zDo_33 (p : Nat) : zDc (zDWf.1 0 33) (zDWf.1 p 33) := zDc.pu _
theorem zDo_42 (p : Nat) : zDc (zDWf.1 0 42) (zDWf.1 p 42) := zDc.pu _
theorem zDo_43 (p : Nat) : zDc (zDWf.1 0 43) (zDWf.1 p 43) := zDc.pu _
theorem zDo_44 (p : Nat) : zDc (zDWf.1 0 44) (zDWf.1 p 44) := zDc.pu _
theorem zDo_45 (p : Nat) : zDc (zDWf.1 0 45) (zDWf.1 p 45) := zDc.pu _
theorem zDo_46 (p : Nat) : zDc (zDWf.1 0 46) (zDWf.1 p 46) := zDc.pu _
theorem zDo_47 (p : Nat) : zDc (zDWf.1 0 47) (zDWf.1 p 47) := zDc.pu _
theorem zDo_54 (p : Nat) : zDc (zDWf.1 0 54) (zDWf.1 p 54) := zDc.bi zDc.u1 (fun _ => zDc.pu _)
theorem zDo_55 (p : Nat) : zDc (zDWf.1 0 55) (zDWf.1 p 55) := zDc.bi zDc.u1 (fun _ => zDc.pu _)
theorem zDo_58 (p : Nat) : zDc (zDWf.1 0 58) (zDWf.1 p 58) := zDc.bi zDc.u1 (fun _ => zDc.pu _)
theorem zDo_59 (p : Nat) : zDc (zDWf.1 0 59) (zDWf.1 p 59) := zDc.pu _
theorem zDo_60 (p : Nat) : zDc (zDWf.1 0 60) (zDWf.1 p 60) := zDc.pu _
theorem zDo_61 (p : Nat) : zDc (zDWf.1 0 61) (zDWf.1 p 61) := zDc.pu _
theorem zDo_62 (p : Nat) : zDc (zDWf.1 0 62) (zDWf.1 p 62) := zDc.pu _
theorem zDo_63 (p : Nat) : zDc (zDWf.1 0 63) (zDWf.1 p 63) := zDc.pu _
theorem zDo_64 (p : Nat) : zDc (zDWf.1 0 64) (zDWf.1 p 64) := zDc.pu _
theorem zDo_65 (p : Nat) : zDc (zDWf.1 0 65) (zDWf.1 p 65) := zDc.pu _
theorem zDo_66 (p : Nat) : zDc (zDWf.1 0 66) (zDWf.1 p 66) := zDc.pu _
theorem zDo_75 (p : Nat) : zDc (zDWf.1 0 75) (zDWf.1 p 75) := zDc.pu _
theorem zDo_76 (p : Nat) : zDc (zDWf.1 0 76) (zDWf.1 p 76) := zDc.pu _
theorem zDo_77 (p : Nat) : zDc (zDWf.1 0 77) (zDWf.1 p 77) := zDc.pu _
theorem zDo_78 (p : Nat) : zDc (zDWf.1 0 78) (zDWf.1 p 78) := zDc.pu _
theorem zDo_79 (p : Nat) : zDc (zDWf.1 0 79) (zDWf.1 p 79) := zDc.pu _
theorem zDo_80 (p : Nat) : zDc (zDWf.1 0 80) (zDWf.1 p 80) := zDc.pu _
theorem zDo_83 (p : Nat) : zDc (zDWf.1 0 83) (zDWf.1 p 83) := zDc.pu _
theorem zDo_87 (p : Nat) : zDc (zDWf.1 0 87) (zDWf.1 p 87) := zDc.pu _
theorem zDo_88 (p : Nat) : zDc (zDWf.1 0 88) (zDWf.1 p 88) := zDc.pu _
theorem zDo_89 (p : Nat) : zDc (zDWf.1 0 89) (zDWf.1 p 89) := zDc.pu _
theorem zDo_92 (p : Nat) : zDc (zDWf.1 0 92) (zDWf.1 p 92) := zDc.pu _
theorem zDo_96 (p : Nat) : zDc (zDWf.1 0 96) (zDWf.1 p 96) := zDc.pu _
theorem zDo_97 (p : Nat) : zDc (zDWf.1 0 97) (zDWf.1 p 97) := zDc.pu _
theorem zDo_100 (p : Nat) : zDc (zDWf.1 0 100) (zDWf.1 p 100) := zDc.pu _
theorem zDo_101 (p : Nat) : zDc (zDWf.1 0 101) (zDWf.1 p 101) := zDc.pu _
theorem zDo_104 (p : Nat) : zDc (zDWf.1 0 104) (zDWf.1 p 104) := zDc.pu _
theorem zDo_105 (p : Nat) : zDc (zDWf.1 0 105) (zDWf.1 p 105) := zDc.pu _
theorem zDo_108 (p : Nat) : zDc (zDWf.1 0 108) (zDWf.1 p 108) := zDc.pu _
theorem zDo_109 (p : Nat) : zDc (zDWf.1 0 109) (zDWf.1 p 109) := zDc.pu _
theorem zDo_112 (p : Nat) : zDc (zDWf.1 0 112) (zDWf.1 p 112) := zDc.pu _
theorem zDo_113 (p : Nat) : zDc (zDWf.1 0 113) (zDWf.1 p 113) := zDc.pu _
theorem zDo_116 (p : Nat) : zDc (zDWf.1 0 116) (zDWf.1 p 116) := zDc.pu _
theorem zDo_117 (p : Nat) : zDc (zDWf.1 0 117) (zDWf.1 p 117) := zDc.pu _
theorem zDo_120 (p : Nat) : zDc (zDWf.1 0 120) (zDWf.1 p 120) := zDc.pu _
theorem zDo_121 (p : Nat) : zDc (zDWf.1 0 121) (zDWf.1 p 121) := zDc.pu _
theorem zDo_122 (p : Nat) : zDc (zDWf.1 0 122) (zDWf.1 p 122) := zDc.pu _
theorem zDo_123 (p : Nat) : zDc (zDWf.1 0 123) (zDWf.1 p 123) := zDc.pu _
theorem zDo_124 (p : Nat) : zDc (zDWf.1 0 124) (zDWf.1 p 124) := zDc.pu _
theorem zDo_126 (p : Nat) : zDc (zDWf.1 0 126) (zDWf.1 p 126) := zDc.pu _
theorem zDo_127 (p : Nat) : zDc (zDWf.1 0 127) (zDWf.1 p 127) := zDc.pu _
theorem zDo_128 (p : Nat) : zDc (zDWf.1 0 128) (zDWf.1 p 128) := zDc.pu _
theorem zDo_129 (p : Nat) : zDc (zDWf.1 0 129) (zDWf.1 p 129) := zDc.pu _
theorem zDo_130 (p : Nat) : zDc (zDWf.1 0 130) (zDWf.1 p 130) := zDc.pu _
theorem zDo_131 (p : Nat) : zDc (zDWf.1 0 131) (zDWf.1 p 131) := zDc.pu _
theorem zDo_132 (p : Nat) : zDc (zDWf.1 0 132) (zDWf.1 p 132) := zDc.bi zDc.u1 (fun _ => zDc.bi zDc.s1 (fun _ => zDc.pu _))
theorem zDo_133 (p : Nat) : zDc (zDWf.1 0 133) (zDWf.1 p 133) := zDc.pu _
theorem zDo_136 (p : Nat) : zDc (zDWf.1 0 136) (zDWf.1 p 136) := zDc.pu _
theorem zDo_148 (p : Nat) : zDc (zDWf.1 0 148) (zDWf.1 p 148) := zDc.pu _
theorem zDo_153 (p : Nat) : zDc (zDWf.1 0 153) (zDWf.1 p 153) := zDc.bi zDc.s2 (fun _ => zDc.pu _)
theorem zDo_154 (p : Nat) : zDc (zDWf.1 0 154) (zDWf.1 p 154) := zDc.bi zDc.s2 (fun _ => zDc.pu _)
theorem zDo_155 (p : Nat) : zDc (zDWf.1 0 155) (zDWf.1 p 155) := zDc.bi zDc.s2 (fun _ => zDc.pu _)
theorem zDo_156 (p : Nat) : zDc (zDWf.1 0 156) (zDWf.1 p 156) := zDc.bi zDc.s2 (fun _ => zDc.pu _)
theorem zDo_157 (p : Nat) : zDc (zDWf.1 0 157) (zDWf.1 p 157) := zDc.bi zDc.s2 (fun _ => zDc.pu _)
theorem zDo_158 (p : Nat) : zDc (zDWf.1 0 158) (zDWf.1 p 158) := zDc.bi zDc.s2 (fun _ => zDc.pu _)
theorem zDo_159 (p : Nat) : zDc (zDWf.1 0 159) (zDWf.1 p 159) := zDc.bi zDc.s2 (fun _ => zDc.pu _)
theorem zDo_160 (p : Nat) : zDc (zDWf.1 0 160) (zDWf.1 p 160) := zDc.bi zDc.s2 (fun _ => zDc.pu _)
theorem zDo_161 (p : Nat) : zDc (zDWf.1 0 161) (zDWf.1 p 161) := zDc.bi zDc.s2 (fun _ => zDc.pu _)
theorem zDo_162 (p : Nat) : zDc (zDWf.1 0 162) (zDWf.1 p 162) := zDc.bi zDc.s2 (fun _ => zDc.pu _)
theorem zDo_163 (p : Nat) : zDc (zDWf.1 0 163) (zDWf.1 p 163) := zDc.bi zDc.s2 (fun _ => zDc.pu _)
theorem zDo_164 (p : Nat) : zDc (zDWf.1 0 164) (zDWf.1 p 164) := zDc.bi zDc.s2 (fun _ => zDc.pu _)
theorem zDo_165 (p : Nat) : zDc (zDWf.1 0 165) (zDWf.1 p 165) := zDc.bi zDc.s2 (fun _ => zDc.pu _)
theorem zDo_166 (p : Nat) : zDc (zDWf.1 0 166) (zDWf.1 p 166) := zDc.bi zDc.s2 (fun _ => zDc.pu _)
theorem zDo_167 (p : Nat) : zDc (zDWf.1 0 167) (zDWf.1 p 167) := zDc.bi zDc.s2 (fun _ => zDc.pu _)
theorem zDo_172 (p : Nat) : zDc (zDWf.1 0 172) (zDWf.1 p 172) := zDc.pu _
theorem zDo_173 (p : Nat) : zDc (zDWf.1 0 173) (zDWf.1 p 173) := zDc.pu _
theorem zDo_176 (p : Nat) : zDc (zDWf.1 0 176) (zDWf.1 p 176) := zDc.pu _
theorem zDo_177 (p : Nat) : zDc (zDWf.1 0 177) (zDWf.1 p 177) := zDc.pu _
theorem zDo_178 (p : Nat) : zDc (zDWf.1 0 178) (zDWf.1 p 178) := zDc.bi zDc.u2 (fun _ => zDc.pu _)
theorem zDo_179 (p : Nat) : zDc (zDWf.1 0 179) (zDWf.1 p 179) := zDc.bi zDc.u2 (fun _ => zDc.pu _)
theorem zDo_180 (p : Nat) : zDc (zDWf.1 0 180) (zDWf.1 p 180) := zDc.bi zDc.u2 (fun _ => zDc.pu _)
theorem zDo_181 (p : Nat) : zDc (zDWf.1 0 181) (zDWf.1 p 181) := zDc.bi zDc.u2 (fun _ => zDc.pu _)
theorem zDo_182 (p : Nat) : zDc (zDWf.1 0 182) (zDWf.1 p 182) := zDc.bi zDc.u2 (fun _ => zDc.pu _)
theorem zDo_183 (p : Nat) : zDc (zDWf.1 0 183) (zDWf.1 p 183) := zDc.bi zDc.u2 (fun _ => zDc.pu _)
theorem zDo_184 (p : Nat) : zDc (zDWf.1 0 184) (zDWf.1 p 184) := zDc.bi zDc.u2 (fun _ => zDc.pu _)
theorem zDo_187 (p : Nat) : zDc (zDWf.1 0 187) (zDWf.1 p 187) := zDc.bi zDc.u2 (fun _ => zDc.pu _)
theorem zDo_190 (p : Nat) : zDc (zDWf.1 0 190) (zDWf.1 p 190) := zDc.pu _
theorem zDo_198 (p : Nat) : zDc (zDWf.1 0 198) (zDWf.1 p 198) := zDc.bi zDc.s2 (fun _ => zDc.pu _)
theorem zDo_199 (p : Nat) : zDc (zDWf.1 0 199) (zDWf.1 p 199) := zDc.bi zDc.s2 (fun _ => zDc.pu _)
def zDops : List Nat := [2, 3, 4, 5, 6, 7, 8, 9, 10, 16, 17, 18, 19, 20, 21, 22, 25, 26, 27, 28, 29, 30, 31, 32, 33, 42, 43, 44, 45, 46, 47, 54, 55, 58, 59, 60, 61, 62, 63, 64, 65, 66, 75, 76, 77, 78, 79, 80, 83, 87, 88, 89, 92, 96, 97, 100, 101, 104, 105, 108, 109, 112, 113, 116, 117, 120, 121, 122, 123, 124, 126, 127, 128, 129, 130, 131, 132, 133, 136, 148, 153, 154, 155, 156, 157, 158, 159, 160, 161, 162, 163, 164, 165, 166, 167, 172, 173, 176, 177, 178, 179, 180, 181, 182, 183, 184, 187, 190, 198, 199]
def zDmask : Nat := 1207017930466722092564788698233701825391987718457023507924988
theorem zDall (p : Nat) : zDA (fun o => zDc (zDWf.1 0 o) (zDWf.1 p o)) zDops := ⟨zDo_2 p, zDo_3 p, zDo_4 p, zDo_5 p, zDo_6 p, zDo_7 p, zDo_8 p, zDo_9 p, zDo_10 p, zDo_16 p, zDo_17 p, zDo_18 p, zDo_19 p, zDo_20 p, zDo_21 p, zDo_22 p, zDo_25 p, zDo_26 p, zDo_27 p, zDo_28 p, zDo_29 p, zDo_30 p, zDo_31 p, zDo_32 p, zDo_33 p, zDo_42 p, zDo_43 p, zDo_44 p, zDo_45 p, zDo_46 p, zDo_47 p, zDo_54 p, zDo_55 p, zDo_58 p, zDo_59 p, zDo_60 p, zDo_61 p, zDo_62 p, zDo_63 p, zDo_64 p, zDo_65 p, zDo_66 p, zDo_75 p, zDo_76 p, zDo_77 p, zDo_78 p, zDo_79 p, zDo_80 p, zDo_83 p, zDo_87 p, zDo_88 p, zDo_89 p, zDo_92 p, zDo_96 p, zDo_97 p, zDo_100 p, zDo_101 p, zDo_104 p, zDo_105 p, zDo_108 p, zDo_109 p, zDo_112 p, zDo_113 p, zDo_116 p, zDo_117 p, zDo_120 p, zDo_121 p, zDo_122 p, zDo_123 p, zDo_124 p, zDo_126 p, zDo_127 p, zDo_128 p, zDo_129 p, zDo_130 p, zDo_131 p, zDo_132 p, zDo_133 p, zDo_136 p, zDo_148 p, zDo_153 p, zDo_154 p, zDo_155 p, zDo_156 p, zDo_157 p, zDo_158 p, zDo_159 p, zDo_160 p, zDo_161 p, zDo_162 p, zDo_163 p, zDo_164 p, zDo_165 p, zDo_166 p, zDo_167 p, zDo_172 p, zDo_173 p, zDo_176 p, zDo_177 p, zDo_178 p, zDo_179 p, zDo_180 p, zDo_181 p, zDo_182 p, zDo_183 p, zDo_184 p, zDo_187 p, zDo_190 p, zDo_198 p, zDo_199 p, trivial⟩
theorem zDmem : ∀ x, x < 256 → Nat.testBit zDmask x = true → x ∈ zDops := by decide +kernel
theorem zDdec {b c : ByteArray} {p : Nat} (ha : zDag b c p) (hz : 0 < c.size) (hm : Nat.testBit zDmask c[0].toNat = true) {e : Jvm.ClassFile.Instr × Nat} (h : decode c 0 = .ok e) : decode b p = .ok e := by
  have hl := zDA.m (zDall p) (zDmem _ (UInt8.toNat_lt _) hm)
  cases hr : Jvm.ClassFile.Reader.runAt (Jvm.ClassFile.Decoder.instr 0) c 0 with
  | error e2 =>
    have h2 : Except.bind (Jvm.ClassFile.Reader.runAt (Jvm.ClassFile.Decoder.instr 0) c 0) (fun z => Except.ok (z.1, z.2 - 0)) = .ok e := h
    rw [hr] at h2
    cases h2
  | ok z =>
    have h2 : Except.bind (Jvm.ClassFile.Reader.runAt (Jvm.ClassFile.Decoder.instr 0) c 0) (fun z => Except.ok (z.1, z.2 - 0)) = .ok e := h
    rw [hr] at h2
    have h3 : (Except.ok (z.1, z.2 - 0) : Except Jvm.ClassFile.DecodeError _) = .ok e := h2
    injection h3 with h4
    rw [zDWf.2 0, zDbo (zDu1o hz)] at hr
    obtain ⟨h5, h6, h7⟩ := ha 0 hz
    have hr2 := hl b c p ha 1 z hr
    have hi : Jvm.ClassFile.Reader.runAt (Jvm.ClassFile.Decoder.instr p) b p = .ok (z.1, p + z.2) := by
      rw [zDWf.2 p, zDbo (zDu1o (q := p) h6)]
      show Jvm.ClassFile.Reader.runAt (zDWf.1 p (b[p + 0]'h6).toNat) b (p + 1) = _
      rw [h7]
      exact hr2
    show Except.bind (Jvm.ClassFile.Reader.runAt (Jvm.ClassFile.Decoder.instr p) b p) (fun z => Except.ok (z.1, z.2 - p)) = _
    rw [hi]
    show (Except.ok (z.1, p + z.2 - p) : Except Jvm.ClassFile.DecodeError _) = _
    rw [Nat.add_sub_cancel_left, ← h4]
    rfl
def zDk : List UInt8 → Bool
  | [] => false
  | x :: _ => Nat.testBit zDmask x.toNat
def zDsw (b : ByteArray) : Nat → List UInt8 → List (Nat × (Jvm.ClassFile.Instr × Nat)) → Bool
  | _, _, [] => true
  | p, s, e :: l => Nat.beq e.1 p && (cond (zDk s) (decide (decode ⟨⟨s.take 3⟩⟩ 0 = .ok e.2)) (decide (decode b p = .ok e.2)) && zDsw b (p + e.2.2) (s.drop e.2.2) l)
theorem zDag_t {b : ByteArray} {p : Nat} {s : List UInt8} (hs : b.data.toList.drop p = s) : zDag b ⟨⟨s.take 3⟩⟩ p := by
  subst hs
  intro i h
  have h1 : i < ((b.data.toList.drop p).take 3).length := h
  have e : ((b.data.toList.drop p).take 3)[i]? = some ((b.data.toList.drop p).take 3)[i] := List.getElem?_eq_getElem h1
  have h3 : i < 3 := by
    rw [List.length_take] at h1
    omega
  rw [List.getElem?_take_of_lt h3, List.getElem?_drop] at e
  obtain ⟨h4, h5⟩ := List.getElem?_eq_some_iff.1 e
  exact ⟨h, h4, h5⟩
theorem zDsw_d {b : ByteArray} : ∀ {l : List (Nat × (Jvm.ClassFile.Instr × Nat))} {p : Nat} {s : List UInt8}, b.data.toList.drop p = s → zDsw b p s l = true → zdal b l = true
  | [], _, _, _, _ => rfl
  | e :: l, p, s, hs, h => by
    have h2 : (Nat.beq e.1 p && (cond (zDk s) (decide (decode ⟨⟨s.take 3⟩⟩ 0 = .ok e.2)) (decide (decode b p = .ok e.2)) && zDsw b (p + e.2.2) (s.drop e.2.2) l)) = true := h
    rw [Bool.and_eq_true, Bool.and_eq_true] at h2
    obtain ⟨h3, h4, h5⟩ := h2
    have hp : e.1 = p := Nat.eq_of_beq_eq_true h3
    have hd : decode b e.1 = .ok e.2 := by
      rw [hp]
      cases hk : zDk s with
      | false =>
        rw [hk] at h4
        exact of_decide_eq_true h4
      | true =>
        rw [hk] at h4
        have h6 : decode ⟨⟨s.take 3⟩⟩ 0 = .ok e.2 := of_decide_eq_true h4
        cases s with
        | nil => cases hk
        | cons x t => exact zDdec (zDag_t hs) (Nat.succ_pos _) hk h6
    have hr : zdal b l = true := zDsw_d (p := p + e.2.2) (s := s.drop e.2.2) (by rw [← hs, List.drop_drop]) h5
    show (decide (decode b e.1 = .ok e.2) && zdal b l) = true
    rw [Bool.and_eq_true]
    exact ⟨decide_eq_true hd, hr⟩
theorem zDs {b : ByteArray} {l : List (Nat × (Jvm.ClassFile.Instr × Nat))} (p : Nat) (h : zDsw b p (b.data.toList.drop p) l = true) : zdal b l = true := zDsw_d rfl h
theorem dlA_T_init_0 : zdal (zb m_T_init) [(0, (.aload_n 0, 1)), (1, (.invokespecial 1, 3)), (4, (.aload_n 0, 1)), (5, (.new 7, 3)), (8, (.dup, 1)), (9, (.invokespecial 9, 3)), (12, (.putfield 10, 3)), (15, (.aload_n 0, 1)), (16, (.new 16, 3)), (19, (.dup, 1)), (20, (.aload_n 0, 1)), (21, (.getfield 10, 3)), (24, (.invokespecial 18, 3)), (27, (.putfield 21, 3)), (30, (.aload_n 0, 1)), (31, (.new 25, 3)), (34, (.dup, 1)), (35, (.invokespecial 27, 3)), (38, (.putfield 28, 3)), (41, (.aload_n 0, 1)), (42, (.new 25, 3)), (45, (.dup, 1)), (46, (.invokespecial 27, 3)), (49, (.putfield 32, 3))] = true := zDs 0 (by decide +kernel)
theorem d_T_init_0 : decode (zb m_T_init) 0 = .ok (.aload_n 0, 1) := zdal_p dlA_T_init_0 (i := 0) rfl
theorem d_T_init_1 : decode (zb m_T_init) 1 = .ok (.invokespecial 1, 3) := zdal_p dlA_T_init_0 (i := 1) rfl
theorem d_T_init_4 : decode (zb m_T_init) 4 = .ok (.aload_n 0, 1) := zdal_p dlA_T_init_0 (i := 2) rfl
theorem d_T_init_5 : decode (zb m_T_init) 5 = .ok (.new 7, 3) := zdal_p dlA_T_init_0 (i := 3) rfl
theorem d_T_init_8 : decode (zb m_T_init) 8 = .ok (.dup, 1) := zdal_p dlA_T_init_0 (i := 4) rfl
theorem d_T_init_9 : decode (zb m_T_init) 9 = .ok (.invokespecial 9, 3) := zdal_p dlA_T_init_0 (i := 5) rfl
theorem d_T_init_12 : decode (zb m_T_init) 12 = .ok (.putfield 10, 3) := zdal_p dlA_T_init_0 (i := 6) rfl
theorem d_T_init_15 : decode (zb m_T_init) 15 = .ok (.aload_n 0, 1) := zdal_p dlA_T_init_0 (i := 7) rfl
theorem d_T_init_16 : decode (zb m_T_init) 16 = .ok (.new 16, 3) := zdal_p dlA_T_init_0 (i := 8) rfl
theorem d_T_init_19 : decode (zb m_T_init) 19 = .ok (.dup, 1) := zdal_p dlA_T_init_0 (i := 9) rfl
theorem d_T_init_20 : decode (zb m_T_init) 20 = .ok (.aload_n 0, 1) := zdal_p dlA_T_init_0 (i := 10) rfl
theorem d_T_init_21 : decode (zb m_T_init) 21 = .ok (.getfield 10, 3) := zdal_p dlA_T_init_0 (i := 11) rfl
theorem d_T_init_24 : decode (zb m_T_init) 24 = .ok (.invokespecial 18, 3) := zdal_p dlA_T_init_0 (i := 12) rfl
theorem d_T_init_27 : decode (zb m_T_init) 27 = .ok (.putfield 21, 3) := zdal_p dlA_T_init_0 (i := 13) rfl
theorem d_T_init_30 : decode (zb m_T_init) 30 = .ok (.aload_n 0, 1) := zdal_p dlA_T_init_0 (i := 14) rfl
theorem d_T_init_31 : decode (zb m_T_init) 31 = .ok (.new 25, 3) := zdal_p dlA_T_init_0 (i := 15) rfl
theorem d_T_init_34 : decode (zb m_T_init) 34 = .ok (.dup, 1) := zdal_p dlA_T_init_0 (i := 16) rfl
theorem d_T_init_35 : decode (zb m_T_init) 35 = .ok (.invokespecial 27, 3) := zdal_p dlA_T_init_0 (i := 17) rfl
theorem d_T_init_38 : decode (zb m_T_init) 38 = .ok (.putfield 28, 3) := zdal_p dlA_T_init_0 (i := 18) rfl
theorem d_T_init_41 : decode (zb m_T_init) 41 = .ok (.aload_n 0, 1) := zdal_p dlA_T_init_0 (i := 19) rfl
theorem d_T_init_42 : decode (zb m_T_init) 42 = .ok (.new 25, 3) := zdal_p dlA_T_init_0 (i := 20) rfl
theorem d_T_init_45 : decode (zb m_T_init) 45 = .ok (.dup, 1) := zdal_p dlA_T_init_0 (i := 21) rfl
theorem d_T_init_46 : decode (zb m_T_init) 46 = .ok (.invokespecial 27, 3) := zdal_p dlA_T_init_0 (i := 22) rfl
theorem d_T_init_49 : decode (zb m_T_init) 49 = .ok (.putfield 32, 3) := zdal_p dlA_T_init_0 (i := 23) rfl
theorem dlA_T_init_1 : zdal (zb m_T_init) [(52, (.aload_n 0, 1)), (53, (.getfield 28, 3)), (56, (.iconst 1, 1)), (57, (.invokevirtual 35, 3)), (60, (.aload_n 0, 1)), (61, (.getfield 28, 3)), (64, (.invokevirtual 39, 3)), (67, (.return_, 1))] = true := zDs 52 (by decide +kernel)
theorem d_T_init_52 : decode (zb m_T_init) 52 = .ok (.aload_n 0, 1) := zdal_p dlA_T_init_1 (i := 0) rfl
theorem d_T_init_53 : decode (zb m_T_init) 53 = .ok (.getfield 28, 3) := zdal_p dlA_T_init_1 (i := 1) rfl
theorem d_T_init_56 : decode (zb m_T_init) 56 = .ok (.iconst 1, 1) := zdal_p dlA_T_init_1 (i := 2) rfl
theorem d_T_init_57 : decode (zb m_T_init) 57 = .ok (.invokevirtual 35, 3) := zdal_p dlA_T_init_1 (i := 3) rfl
theorem d_T_init_60 : decode (zb m_T_init) 60 = .ok (.aload_n 0, 1) := zdal_p dlA_T_init_1 (i := 4) rfl
theorem d_T_init_61 : decode (zb m_T_init) 61 = .ok (.getfield 28, 3) := zdal_p dlA_T_init_1 (i := 5) rfl
theorem d_T_init_64 : decode (zb m_T_init) 64 = .ok (.invokevirtual 39, 3) := zdal_p dlA_T_init_1 (i := 6) rfl
theorem d_T_init_67 : decode (zb m_T_init) 67 = .ok (.return_, 1) := zdal_p dlA_T_init_1 (i := 7) rfl
theorem dlA_Tokens_init_2 : zdal (zb m_Tokens_init) [(0, (.aload_n 0, 1)), (1, (.invokespecial 3, 3)), (4, (.aload_n 0, 1)), (5, (.new 9, 3)), (8, (.dup, 1)), (9, (.sipush 700, 3)), (12, (.invokespecial 11, 3)), (15, (.putfield 14, 3)), (18, (.return_, 1))] = true := zDs 0 (by decide +kernel)
theorem d_Tokens_init_0 : decode (zb m_Tokens_init) 0 = .ok (.aload_n 0, 1) := zdal_p dlA_Tokens_init_2 (i := 0) rfl
theorem d_Tokens_init_1 : decode (zb m_Tokens_init) 1 = .ok (.invokespecial 3, 3) := zdal_p dlA_Tokens_init_2 (i := 1) rfl
theorem d_Tokens_init_4 : decode (zb m_Tokens_init) 4 = .ok (.aload_n 0, 1) := zdal_p dlA_Tokens_init_2 (i := 2) rfl
theorem d_Tokens_init_5 : decode (zb m_Tokens_init) 5 = .ok (.new 9, 3) := zdal_p dlA_Tokens_init_2 (i := 3) rfl
theorem d_Tokens_init_8 : decode (zb m_Tokens_init) 8 = .ok (.dup, 1) := zdal_p dlA_Tokens_init_2 (i := 4) rfl
theorem d_Tokens_init_9 : decode (zb m_Tokens_init) 9 = .ok (.sipush 700, 3) := zdal_p dlA_Tokens_init_2 (i := 5) rfl
theorem d_Tokens_init_12 : decode (zb m_Tokens_init) 12 = .ok (.invokespecial 11, 3) := zdal_p dlA_Tokens_init_2 (i := 6) rfl
theorem d_Tokens_init_15 : decode (zb m_Tokens_init) 15 = .ok (.putfield 14, 3) := zdal_p dlA_Tokens_init_2 (i := 7) rfl
theorem d_Tokens_init_18 : decode (zb m_Tokens_init) 18 = .ok (.return_, 1) := zdal_p dlA_Tokens_init_2 (i := 8) rfl
theorem dlA_IntRow_init_3 : zdal (zb m_IntRow_init) [(0, (.aload_n 0, 1)), (1, (.invokespecial 1, 3)), (4, (.aload_n 0, 1)), (5, (.iload_n 1, 1)), (6, (.iconst 0, 1)), (7, (.invokestatic 7, 3)), (10, (.newarray .int, 2)), (12, (.putfield 13, 3)), (15, (.return_, 1))] = true := zDs 0 (by decide +kernel)
theorem d_IntRow_init_0 : decode (zb m_IntRow_init) 0 = .ok (.aload_n 0, 1) := zdal_p dlA_IntRow_init_3 (i := 0) rfl
theorem d_IntRow_init_1 : decode (zb m_IntRow_init) 1 = .ok (.invokespecial 1, 3) := zdal_p dlA_IntRow_init_3 (i := 1) rfl
theorem d_IntRow_init_4 : decode (zb m_IntRow_init) 4 = .ok (.aload_n 0, 1) := zdal_p dlA_IntRow_init_3 (i := 2) rfl
theorem d_IntRow_init_5 : decode (zb m_IntRow_init) 5 = .ok (.iload_n 1, 1) := zdal_p dlA_IntRow_init_3 (i := 3) rfl
theorem d_IntRow_init_6 : decode (zb m_IntRow_init) 6 = .ok (.iconst 0, 1) := zdal_p dlA_IntRow_init_3 (i := 4) rfl
theorem d_IntRow_init_7 : decode (zb m_IntRow_init) 7 = .ok (.invokestatic 7, 3) := zdal_p dlA_IntRow_init_3 (i := 5) rfl
theorem d_IntRow_init_10 : decode (zb m_IntRow_init) 10 = .ok (.newarray .int, 2) := zdal_p dlA_IntRow_init_3 (i := 6) rfl
theorem d_IntRow_init_12 : decode (zb m_IntRow_init) 12 = .ok (.putfield 13, 3) := zdal_p dlA_IntRow_init_3 (i := 7) rfl
theorem d_IntRow_init_15 : decode (zb m_IntRow_init) 15 = .ok (.return_, 1) := zdal_p dlA_IntRow_init_3 (i := 8) rfl
theorem dlA_Reader_init_4 : zdal (zb m_Reader_init) [(0, (.aload_n 0, 1)), (1, (.invokespecial 3, 3)), (4, (.aload_n 0, 1)), (5, (.iconst (-1), 1)), (6, (.putfield 9, 3)), (9, (.aload_n 0, 1)), (10, (.aload_n 1, 1)), (11, (.putfield 15, 3)), (14, (.return_, 1))] = true := zDs 0 (by decide +kernel)
theorem d_Reader_init_0 : decode (zb m_Reader_init) 0 = .ok (.aload_n 0, 1) := zdal_p dlA_Reader_init_4 (i := 0) rfl
theorem d_Reader_init_1 : decode (zb m_Reader_init) 1 = .ok (.invokespecial 3, 3) := zdal_p dlA_Reader_init_4 (i := 1) rfl
theorem d_Reader_init_4 : decode (zb m_Reader_init) 4 = .ok (.aload_n 0, 1) := zdal_p dlA_Reader_init_4 (i := 2) rfl
theorem d_Reader_init_5 : decode (zb m_Reader_init) 5 = .ok (.iconst (-1), 1) := zdal_p dlA_Reader_init_4 (i := 3) rfl
theorem d_Reader_init_6 : decode (zb m_Reader_init) 6 = .ok (.putfield 9, 3) := zdal_p dlA_Reader_init_4 (i := 4) rfl
theorem d_Reader_init_9 : decode (zb m_Reader_init) 9 = .ok (.aload_n 0, 1) := zdal_p dlA_Reader_init_4 (i := 5) rfl
theorem d_Reader_init_10 : decode (zb m_Reader_init) 10 = .ok (.aload_n 1, 1) := zdal_p dlA_Reader_init_4 (i := 6) rfl
theorem d_Reader_init_11 : decode (zb m_Reader_init) 11 = .ok (.putfield 15, 3) := zdal_p dlA_Reader_init_4 (i := 7) rfl
theorem d_Reader_init_14 : decode (zb m_Reader_init) 14 = .ok (.return_, 1) := zdal_p dlA_Reader_init_4 (i := 8) rfl
theorem dlA_Troupe_init_5 : zdal (zb m_Troupe_init) [(0, (.aload_n 0, 1)), (1, (.invokespecial 3, 3)), (4, (.aload_n 0, 1)), (5, (.new 9, 3)), (8, (.dup, 1)), (9, (.invokespecial 11, 3)), (12, (.putfield 12, 3)), (15, (.aload_n 0, 1)), (16, (.new 18, 3)), (19, (.dup, 1)), (20, (.aload_n 0, 1)), (21, (.getfield 12, 3)), (24, (.invokespecial 20, 3)), (27, (.putfield 23, 3)), (30, (.aload_n 0, 1)), (31, (.new 27, 3)), (34, (.dup, 1)), (35, (.aload_n 0, 1)), (36, (.getfield 23, 3)), (39, (.invokespecial 29, 3)), (42, (.putfield 32, 3)), (45, (.aload_n 0, 1)), (46, (.new 36, 3)), (49, (.dup, 1))] = true := zDs 0 (by decide +kernel)
theorem d_Troupe_init_0 : decode (zb m_Troupe_init) 0 = .ok (.aload_n 0, 1) := zdal_p dlA_Troupe_init_5 (i := 0) rfl
theorem d_Troupe_init_1 : decode (zb m_Troupe_init) 1 = .ok (.invokespecial 3, 3) := zdal_p dlA_Troupe_init_5 (i := 1) rfl
theorem d_Troupe_init_4 : decode (zb m_Troupe_init) 4 = .ok (.aload_n 0, 1) := zdal_p dlA_Troupe_init_5 (i := 2) rfl
theorem d_Troupe_init_5 : decode (zb m_Troupe_init) 5 = .ok (.new 9, 3) := zdal_p dlA_Troupe_init_5 (i := 3) rfl
theorem d_Troupe_init_8 : decode (zb m_Troupe_init) 8 = .ok (.dup, 1) := zdal_p dlA_Troupe_init_5 (i := 4) rfl
theorem d_Troupe_init_9 : decode (zb m_Troupe_init) 9 = .ok (.invokespecial 11, 3) := zdal_p dlA_Troupe_init_5 (i := 5) rfl
theorem d_Troupe_init_12 : decode (zb m_Troupe_init) 12 = .ok (.putfield 12, 3) := zdal_p dlA_Troupe_init_5 (i := 6) rfl
theorem d_Troupe_init_15 : decode (zb m_Troupe_init) 15 = .ok (.aload_n 0, 1) := zdal_p dlA_Troupe_init_5 (i := 7) rfl
theorem d_Troupe_init_16 : decode (zb m_Troupe_init) 16 = .ok (.new 18, 3) := zdal_p dlA_Troupe_init_5 (i := 8) rfl
theorem d_Troupe_init_19 : decode (zb m_Troupe_init) 19 = .ok (.dup, 1) := zdal_p dlA_Troupe_init_5 (i := 9) rfl
theorem d_Troupe_init_20 : decode (zb m_Troupe_init) 20 = .ok (.aload_n 0, 1) := zdal_p dlA_Troupe_init_5 (i := 10) rfl
theorem d_Troupe_init_21 : decode (zb m_Troupe_init) 21 = .ok (.getfield 12, 3) := zdal_p dlA_Troupe_init_5 (i := 11) rfl
theorem d_Troupe_init_24 : decode (zb m_Troupe_init) 24 = .ok (.invokespecial 20, 3) := zdal_p dlA_Troupe_init_5 (i := 12) rfl
theorem d_Troupe_init_27 : decode (zb m_Troupe_init) 27 = .ok (.putfield 23, 3) := zdal_p dlA_Troupe_init_5 (i := 13) rfl
theorem d_Troupe_init_30 : decode (zb m_Troupe_init) 30 = .ok (.aload_n 0, 1) := zdal_p dlA_Troupe_init_5 (i := 14) rfl
theorem d_Troupe_init_31 : decode (zb m_Troupe_init) 31 = .ok (.new 27, 3) := zdal_p dlA_Troupe_init_5 (i := 15) rfl
theorem d_Troupe_init_34 : decode (zb m_Troupe_init) 34 = .ok (.dup, 1) := zdal_p dlA_Troupe_init_5 (i := 16) rfl
theorem d_Troupe_init_35 : decode (zb m_Troupe_init) 35 = .ok (.aload_n 0, 1) := zdal_p dlA_Troupe_init_5 (i := 17) rfl
theorem d_Troupe_init_36 : decode (zb m_Troupe_init) 36 = .ok (.getfield 23, 3) := zdal_p dlA_Troupe_init_5 (i := 18) rfl
theorem d_Troupe_init_39 : decode (zb m_Troupe_init) 39 = .ok (.invokespecial 29, 3) := zdal_p dlA_Troupe_init_5 (i := 19) rfl
theorem d_Troupe_init_42 : decode (zb m_Troupe_init) 42 = .ok (.putfield 32, 3) := zdal_p dlA_Troupe_init_5 (i := 20) rfl
theorem d_Troupe_init_45 : decode (zb m_Troupe_init) 45 = .ok (.aload_n 0, 1) := zdal_p dlA_Troupe_init_5 (i := 21) rfl
theorem d_Troupe_init_46 : decode (zb m_Troupe_init) 46 = .ok (.new 36, 3) := zdal_p dlA_Troupe_init_5 (i := 22) rfl
theorem d_Troupe_init_49 : decode (zb m_Troupe_init) 49 = .ok (.dup, 1) := zdal_p dlA_Troupe_init_5 (i := 23) rfl
theorem dlA_Troupe_init_6 : zdal (zb m_Troupe_init) [(50, (.aload_n 0, 1)), (51, (.getfield 23, 3)), (54, (.invokespecial 38, 3)), (57, (.putfield 39, 3)), (60, (.aload_n 0, 1)), (61, (.new 43, 3)), (64, (.dup, 1)), (65, (.aload_n 0, 1)), (66, (.getfield 32, 3)), (69, (.invokespecial 45, 3)), (72, (.putfield 48, 3)), (75, (.aload_n 0, 1)), (76, (.new 52, 3)), (79, (.dup, 1)), (80, (.bipush 8, 2)), (82, (.invokespecial 54, 3)), (85, (.putfield 57, 3)), (88, (.return_, 1))] = true := zDs 50 (by decide +kernel)
theorem d_Troupe_init_50 : decode (zb m_Troupe_init) 50 = .ok (.aload_n 0, 1) := zdal_p dlA_Troupe_init_6 (i := 0) rfl
theorem d_Troupe_init_51 : decode (zb m_Troupe_init) 51 = .ok (.getfield 23, 3) := zdal_p dlA_Troupe_init_6 (i := 1) rfl
theorem d_Troupe_init_54 : decode (zb m_Troupe_init) 54 = .ok (.invokespecial 38, 3) := zdal_p dlA_Troupe_init_6 (i := 2) rfl
theorem d_Troupe_init_57 : decode (zb m_Troupe_init) 57 = .ok (.putfield 39, 3) := zdal_p dlA_Troupe_init_6 (i := 3) rfl
theorem d_Troupe_init_60 : decode (zb m_Troupe_init) 60 = .ok (.aload_n 0, 1) := zdal_p dlA_Troupe_init_6 (i := 4) rfl
theorem d_Troupe_init_61 : decode (zb m_Troupe_init) 61 = .ok (.new 43, 3) := zdal_p dlA_Troupe_init_6 (i := 5) rfl
theorem d_Troupe_init_64 : decode (zb m_Troupe_init) 64 = .ok (.dup, 1) := zdal_p dlA_Troupe_init_6 (i := 6) rfl
theorem d_Troupe_init_65 : decode (zb m_Troupe_init) 65 = .ok (.aload_n 0, 1) := zdal_p dlA_Troupe_init_6 (i := 7) rfl
theorem d_Troupe_init_66 : decode (zb m_Troupe_init) 66 = .ok (.getfield 32, 3) := zdal_p dlA_Troupe_init_6 (i := 8) rfl
theorem d_Troupe_init_69 : decode (zb m_Troupe_init) 69 = .ok (.invokespecial 45, 3) := zdal_p dlA_Troupe_init_6 (i := 9) rfl
theorem d_Troupe_init_72 : decode (zb m_Troupe_init) 72 = .ok (.putfield 48, 3) := zdal_p dlA_Troupe_init_6 (i := 10) rfl
theorem d_Troupe_init_75 : decode (zb m_Troupe_init) 75 = .ok (.aload_n 0, 1) := zdal_p dlA_Troupe_init_6 (i := 11) rfl
theorem d_Troupe_init_76 : decode (zb m_Troupe_init) 76 = .ok (.new 52, 3) := zdal_p dlA_Troupe_init_6 (i := 12) rfl
theorem d_Troupe_init_79 : decode (zb m_Troupe_init) 79 = .ok (.dup, 1) := zdal_p dlA_Troupe_init_6 (i := 13) rfl
theorem d_Troupe_init_80 : decode (zb m_Troupe_init) 80 = .ok (.bipush 8, 2) := zdal_p dlA_Troupe_init_6 (i := 14) rfl
theorem d_Troupe_init_82 : decode (zb m_Troupe_init) 82 = .ok (.invokespecial 54, 3) := zdal_p dlA_Troupe_init_6 (i := 15) rfl
theorem d_Troupe_init_85 : decode (zb m_Troupe_init) 85 = .ok (.putfield 57, 3) := zdal_p dlA_Troupe_init_6 (i := 16) rfl
theorem d_Troupe_init_88 : decode (zb m_Troupe_init) 88 = .ok (.return_, 1) := zdal_p dlA_Troupe_init_6 (i := 17) rfl
theorem dlA_Group_init_7 : zdal (zb m_Group_init) [(0, (.aload_n 0, 1)), (1, (.invokespecial 3, 3)), (4, (.aload_n 0, 1)), (5, (.new 9, 3)), (8, (.dup, 1)), (9, (.iconst 4, 1)), (10, (.invokespecial 11, 3)), (13, (.putfield 14, 3)), (16, (.aload_n 0, 1)), (17, (.new 9, 3)), (20, (.dup, 1)), (21, (.bipush 24, 2)), (23, (.invokespecial 11, 3)), (26, (.putfield 20, 3)), (29, (.aload_n 0, 1)), (30, (.new 9, 3)), (33, (.dup, 1)), (34, (.sipush 576, 3)), (37, (.invokespecial 11, 3)), (40, (.putfield 23, 3)), (43, (.aload_n 0, 1)), (44, (.new 9, 3)), (47, (.dup, 1)), (48, (.bipush 24, 2))] = true := zDs 0 (by decide +kernel)
theorem d_Group_init_0 : decode (zb m_Group_init) 0 = .ok (.aload_n 0, 1) := zdal_p dlA_Group_init_7 (i := 0) rfl
theorem d_Group_init_1 : decode (zb m_Group_init) 1 = .ok (.invokespecial 3, 3) := zdal_p dlA_Group_init_7 (i := 1) rfl
theorem d_Group_init_4 : decode (zb m_Group_init) 4 = .ok (.aload_n 0, 1) := zdal_p dlA_Group_init_7 (i := 2) rfl
theorem d_Group_init_5 : decode (zb m_Group_init) 5 = .ok (.new 9, 3) := zdal_p dlA_Group_init_7 (i := 3) rfl
theorem d_Group_init_8 : decode (zb m_Group_init) 8 = .ok (.dup, 1) := zdal_p dlA_Group_init_7 (i := 4) rfl
theorem d_Group_init_9 : decode (zb m_Group_init) 9 = .ok (.iconst 4, 1) := zdal_p dlA_Group_init_7 (i := 5) rfl
theorem d_Group_init_10 : decode (zb m_Group_init) 10 = .ok (.invokespecial 11, 3) := zdal_p dlA_Group_init_7 (i := 6) rfl
theorem d_Group_init_13 : decode (zb m_Group_init) 13 = .ok (.putfield 14, 3) := zdal_p dlA_Group_init_7 (i := 7) rfl
theorem d_Group_init_16 : decode (zb m_Group_init) 16 = .ok (.aload_n 0, 1) := zdal_p dlA_Group_init_7 (i := 8) rfl
theorem d_Group_init_17 : decode (zb m_Group_init) 17 = .ok (.new 9, 3) := zdal_p dlA_Group_init_7 (i := 9) rfl
theorem d_Group_init_20 : decode (zb m_Group_init) 20 = .ok (.dup, 1) := zdal_p dlA_Group_init_7 (i := 10) rfl
theorem d_Group_init_21 : decode (zb m_Group_init) 21 = .ok (.bipush 24, 2) := zdal_p dlA_Group_init_7 (i := 11) rfl
theorem d_Group_init_23 : decode (zb m_Group_init) 23 = .ok (.invokespecial 11, 3) := zdal_p dlA_Group_init_7 (i := 12) rfl
theorem d_Group_init_26 : decode (zb m_Group_init) 26 = .ok (.putfield 20, 3) := zdal_p dlA_Group_init_7 (i := 13) rfl
theorem d_Group_init_29 : decode (zb m_Group_init) 29 = .ok (.aload_n 0, 1) := zdal_p dlA_Group_init_7 (i := 14) rfl
theorem d_Group_init_30 : decode (zb m_Group_init) 30 = .ok (.new 9, 3) := zdal_p dlA_Group_init_7 (i := 15) rfl
theorem d_Group_init_33 : decode (zb m_Group_init) 33 = .ok (.dup, 1) := zdal_p dlA_Group_init_7 (i := 16) rfl
theorem d_Group_init_34 : decode (zb m_Group_init) 34 = .ok (.sipush 576, 3) := zdal_p dlA_Group_init_7 (i := 17) rfl
theorem d_Group_init_37 : decode (zb m_Group_init) 37 = .ok (.invokespecial 11, 3) := zdal_p dlA_Group_init_7 (i := 18) rfl
theorem d_Group_init_40 : decode (zb m_Group_init) 40 = .ok (.putfield 23, 3) := zdal_p dlA_Group_init_7 (i := 19) rfl
theorem d_Group_init_43 : decode (zb m_Group_init) 43 = .ok (.aload_n 0, 1) := zdal_p dlA_Group_init_7 (i := 20) rfl
theorem d_Group_init_44 : decode (zb m_Group_init) 44 = .ok (.new 9, 3) := zdal_p dlA_Group_init_7 (i := 21) rfl
theorem d_Group_init_47 : decode (zb m_Group_init) 47 = .ok (.dup, 1) := zdal_p dlA_Group_init_7 (i := 22) rfl
theorem d_Group_init_48 : decode (zb m_Group_init) 48 = .ok (.bipush 24, 2) := zdal_p dlA_Group_init_7 (i := 23) rfl
theorem dlA_Group_init_8 : zdal (zb m_Group_init) [(50, (.invokespecial 11, 3)), (53, (.putfield 26, 3)), (56, (.aload_n 0, 1)), (57, (.new 9, 3)), (60, (.dup, 1)), (61, (.bipush 24, 2)), (63, (.invokespecial 11, 3)), (66, (.putfield 29, 3)), (69, (.return_, 1))] = true := zDs 50 (by decide +kernel)
theorem d_Group_init_50 : decode (zb m_Group_init) 50 = .ok (.invokespecial 11, 3) := zdal_p dlA_Group_init_8 (i := 0) rfl
theorem d_Group_init_53 : decode (zb m_Group_init) 53 = .ok (.putfield 26, 3) := zdal_p dlA_Group_init_8 (i := 1) rfl
theorem d_Group_init_56 : decode (zb m_Group_init) 56 = .ok (.aload_n 0, 1) := zdal_p dlA_Group_init_8 (i := 2) rfl
theorem d_Group_init_57 : decode (zb m_Group_init) 57 = .ok (.new 9, 3) := zdal_p dlA_Group_init_8 (i := 3) rfl
theorem d_Group_init_60 : decode (zb m_Group_init) 60 = .ok (.dup, 1) := zdal_p dlA_Group_init_8 (i := 4) rfl
theorem d_Group_init_61 : decode (zb m_Group_init) 61 = .ok (.bipush 24, 2) := zdal_p dlA_Group_init_8 (i := 5) rfl
theorem d_Group_init_63 : decode (zb m_Group_init) 63 = .ok (.invokespecial 11, 3) := zdal_p dlA_Group_init_8 (i := 6) rfl
theorem d_Group_init_66 : decode (zb m_Group_init) 66 = .ok (.putfield 29, 3) := zdal_p dlA_Group_init_8 (i := 7) rfl
theorem d_Group_init_69 : decode (zb m_Group_init) 69 = .ok (.return_, 1) := zdal_p dlA_Group_init_8 (i := 8) rfl
theorem dlA_Sorts_init_9 : zdal (zb m_Sorts_init) [(0, (.aload_n 0, 1)), (1, (.invokespecial 3, 3)), (4, (.aload_n 0, 1)), (5, (.new 9, 3)), (8, (.dup, 1)), (9, (.bipush 35, 2)), (11, (.invokespecial 11, 3)), (14, (.putfield 14, 3)), (17, (.aload_n 0, 1)), (18, (.new 9, 3)), (21, (.dup, 1)), (22, (.bipush 35, 2)), (24, (.invokespecial 11, 3)), (27, (.putfield 20, 3)), (30, (.aload_n 0, 1)), (31, (.new 9, 3)), (34, (.dup, 1)), (35, (.bipush 35, 2)), (37, (.invokespecial 11, 3)), (40, (.putfield 23, 3)), (43, (.aload_n 0, 1)), (44, (.new 9, 3)), (47, (.dup, 1)), (48, (.bipush 27, 2))] = true := zDs 0 (by decide +kernel)
theorem d_Sorts_init_0 : decode (zb m_Sorts_init) 0 = .ok (.aload_n 0, 1) := zdal_p dlA_Sorts_init_9 (i := 0) rfl
theorem d_Sorts_init_1 : decode (zb m_Sorts_init) 1 = .ok (.invokespecial 3, 3) := zdal_p dlA_Sorts_init_9 (i := 1) rfl
theorem d_Sorts_init_4 : decode (zb m_Sorts_init) 4 = .ok (.aload_n 0, 1) := zdal_p dlA_Sorts_init_9 (i := 2) rfl
theorem d_Sorts_init_5 : decode (zb m_Sorts_init) 5 = .ok (.new 9, 3) := zdal_p dlA_Sorts_init_9 (i := 3) rfl
theorem d_Sorts_init_8 : decode (zb m_Sorts_init) 8 = .ok (.dup, 1) := zdal_p dlA_Sorts_init_9 (i := 4) rfl
theorem d_Sorts_init_9 : decode (zb m_Sorts_init) 9 = .ok (.bipush 35, 2) := zdal_p dlA_Sorts_init_9 (i := 5) rfl
theorem d_Sorts_init_11 : decode (zb m_Sorts_init) 11 = .ok (.invokespecial 11, 3) := zdal_p dlA_Sorts_init_9 (i := 6) rfl
theorem d_Sorts_init_14 : decode (zb m_Sorts_init) 14 = .ok (.putfield 14, 3) := zdal_p dlA_Sorts_init_9 (i := 7) rfl
theorem d_Sorts_init_17 : decode (zb m_Sorts_init) 17 = .ok (.aload_n 0, 1) := zdal_p dlA_Sorts_init_9 (i := 8) rfl
theorem d_Sorts_init_18 : decode (zb m_Sorts_init) 18 = .ok (.new 9, 3) := zdal_p dlA_Sorts_init_9 (i := 9) rfl
theorem d_Sorts_init_21 : decode (zb m_Sorts_init) 21 = .ok (.dup, 1) := zdal_p dlA_Sorts_init_9 (i := 10) rfl
theorem d_Sorts_init_22 : decode (zb m_Sorts_init) 22 = .ok (.bipush 35, 2) := zdal_p dlA_Sorts_init_9 (i := 11) rfl
theorem d_Sorts_init_24 : decode (zb m_Sorts_init) 24 = .ok (.invokespecial 11, 3) := zdal_p dlA_Sorts_init_9 (i := 12) rfl
theorem d_Sorts_init_27 : decode (zb m_Sorts_init) 27 = .ok (.putfield 20, 3) := zdal_p dlA_Sorts_init_9 (i := 13) rfl
theorem d_Sorts_init_30 : decode (zb m_Sorts_init) 30 = .ok (.aload_n 0, 1) := zdal_p dlA_Sorts_init_9 (i := 14) rfl
theorem d_Sorts_init_31 : decode (zb m_Sorts_init) 31 = .ok (.new 9, 3) := zdal_p dlA_Sorts_init_9 (i := 15) rfl
theorem d_Sorts_init_34 : decode (zb m_Sorts_init) 34 = .ok (.dup, 1) := zdal_p dlA_Sorts_init_9 (i := 16) rfl
theorem d_Sorts_init_35 : decode (zb m_Sorts_init) 35 = .ok (.bipush 35, 2) := zdal_p dlA_Sorts_init_9 (i := 17) rfl
theorem d_Sorts_init_37 : decode (zb m_Sorts_init) 37 = .ok (.invokespecial 11, 3) := zdal_p dlA_Sorts_init_9 (i := 18) rfl
theorem d_Sorts_init_40 : decode (zb m_Sorts_init) 40 = .ok (.putfield 23, 3) := zdal_p dlA_Sorts_init_9 (i := 19) rfl
theorem d_Sorts_init_43 : decode (zb m_Sorts_init) 43 = .ok (.aload_n 0, 1) := zdal_p dlA_Sorts_init_9 (i := 20) rfl
theorem d_Sorts_init_44 : decode (zb m_Sorts_init) 44 = .ok (.new 9, 3) := zdal_p dlA_Sorts_init_9 (i := 21) rfl
theorem d_Sorts_init_47 : decode (zb m_Sorts_init) 47 = .ok (.dup, 1) := zdal_p dlA_Sorts_init_9 (i := 22) rfl
theorem d_Sorts_init_48 : decode (zb m_Sorts_init) 48 = .ok (.bipush 27, 2) := zdal_p dlA_Sorts_init_9 (i := 23) rfl
theorem dlA_Sorts_init_10 : zdal (zb m_Sorts_init) [(50, (.invokespecial 11, 3)), (53, (.putfield 26, 3)), (56, (.aload_n 0, 1)), (57, (.new 9, 3)), (60, (.dup, 1)), (61, (.sipush 729, 3)), (64, (.invokespecial 11, 3)), (67, (.putfield 29, 3)), (70, (.aload_n 0, 1)), (71, (.aload_n 1, 1)), (72, (.putfield 32, 3)), (75, (.return_, 1))] = true := zDs 50 (by decide +kernel)
theorem d_Sorts_init_50 : decode (zb m_Sorts_init) 50 = .ok (.invokespecial 11, 3) := zdal_p dlA_Sorts_init_10 (i := 0) rfl
theorem d_Sorts_init_53 : decode (zb m_Sorts_init) 53 = .ok (.putfield 26, 3) := zdal_p dlA_Sorts_init_10 (i := 1) rfl
theorem d_Sorts_init_56 : decode (zb m_Sorts_init) 56 = .ok (.aload_n 0, 1) := zdal_p dlA_Sorts_init_10 (i := 2) rfl
theorem d_Sorts_init_57 : decode (zb m_Sorts_init) 57 = .ok (.new 9, 3) := zdal_p dlA_Sorts_init_10 (i := 3) rfl
theorem d_Sorts_init_60 : decode (zb m_Sorts_init) 60 = .ok (.dup, 1) := zdal_p dlA_Sorts_init_10 (i := 4) rfl
theorem d_Sorts_init_61 : decode (zb m_Sorts_init) 61 = .ok (.sipush 729, 3) := zdal_p dlA_Sorts_init_10 (i := 5) rfl
theorem d_Sorts_init_64 : decode (zb m_Sorts_init) 64 = .ok (.invokespecial 11, 3) := zdal_p dlA_Sorts_init_10 (i := 6) rfl
theorem d_Sorts_init_67 : decode (zb m_Sorts_init) 67 = .ok (.putfield 29, 3) := zdal_p dlA_Sorts_init_10 (i := 7) rfl
theorem d_Sorts_init_70 : decode (zb m_Sorts_init) 70 = .ok (.aload_n 0, 1) := zdal_p dlA_Sorts_init_10 (i := 8) rfl
theorem d_Sorts_init_71 : decode (zb m_Sorts_init) 71 = .ok (.aload_n 1, 1) := zdal_p dlA_Sorts_init_10 (i := 9) rfl
theorem d_Sorts_init_72 : decode (zb m_Sorts_init) 72 = .ok (.putfield 32, 3) := zdal_p dlA_Sorts_init_10 (i := 10) rfl
theorem d_Sorts_init_75 : decode (zb m_Sorts_init) 75 = .ok (.return_, 1) := zdal_p dlA_Sorts_init_10 (i := 11) rfl
theorem dlA_Sums_init_11 : zdal (zb m_Sums_init) [(0, (.aload_n 0, 1)), (1, (.invokespecial 5, 3)), (4, (.aload_n 0, 1)), (5, (.new 11, 3)), (8, (.dup, 1)), (9, (.sipush 1080, 3)), (12, (.invokespecial 13, 3)), (15, (.putfield 16, 3)), (18, (.aload_n 0, 1)), (19, (.new 11, 3)), (22, (.dup, 1)), (23, (.bipush 27, 2)), (25, (.invokespecial 13, 3)), (28, (.putfield 20, 3)), (31, (.aload_n 0, 1)), (32, (.aload_n 1, 1)), (33, (.putfield 23, 3)), (36, (.return_, 1))] = true := zDs 0 (by decide +kernel)
theorem d_Sums_init_0 : decode (zb m_Sums_init) 0 = .ok (.aload_n 0, 1) := zdal_p dlA_Sums_init_11 (i := 0) rfl
theorem d_Sums_init_1 : decode (zb m_Sums_init) 1 = .ok (.invokespecial 5, 3) := zdal_p dlA_Sums_init_11 (i := 1) rfl
theorem d_Sums_init_4 : decode (zb m_Sums_init) 4 = .ok (.aload_n 0, 1) := zdal_p dlA_Sums_init_11 (i := 2) rfl
theorem d_Sums_init_5 : decode (zb m_Sums_init) 5 = .ok (.new 11, 3) := zdal_p dlA_Sums_init_11 (i := 3) rfl
theorem d_Sums_init_8 : decode (zb m_Sums_init) 8 = .ok (.dup, 1) := zdal_p dlA_Sums_init_11 (i := 4) rfl
theorem d_Sums_init_9 : decode (zb m_Sums_init) 9 = .ok (.sipush 1080, 3) := zdal_p dlA_Sums_init_11 (i := 5) rfl
theorem d_Sums_init_12 : decode (zb m_Sums_init) 12 = .ok (.invokespecial 13, 3) := zdal_p dlA_Sums_init_11 (i := 6) rfl
theorem d_Sums_init_15 : decode (zb m_Sums_init) 15 = .ok (.putfield 16, 3) := zdal_p dlA_Sums_init_11 (i := 7) rfl
theorem d_Sums_init_18 : decode (zb m_Sums_init) 18 = .ok (.aload_n 0, 1) := zdal_p dlA_Sums_init_11 (i := 8) rfl
theorem d_Sums_init_19 : decode (zb m_Sums_init) 19 = .ok (.new 11, 3) := zdal_p dlA_Sums_init_11 (i := 9) rfl
theorem d_Sums_init_22 : decode (zb m_Sums_init) 22 = .ok (.dup, 1) := zdal_p dlA_Sums_init_11 (i := 10) rfl
theorem d_Sums_init_23 : decode (zb m_Sums_init) 23 = .ok (.bipush 27, 2) := zdal_p dlA_Sums_init_11 (i := 11) rfl
theorem d_Sums_init_25 : decode (zb m_Sums_init) 25 = .ok (.invokespecial 13, 3) := zdal_p dlA_Sums_init_11 (i := 12) rfl
theorem d_Sums_init_28 : decode (zb m_Sums_init) 28 = .ok (.putfield 20, 3) := zdal_p dlA_Sums_init_11 (i := 13) rfl
theorem d_Sums_init_31 : decode (zb m_Sums_init) 31 = .ok (.aload_n 0, 1) := zdal_p dlA_Sums_init_11 (i := 14) rfl
theorem d_Sums_init_32 : decode (zb m_Sums_init) 32 = .ok (.aload_n 1, 1) := zdal_p dlA_Sums_init_11 (i := 15) rfl
theorem d_Sums_init_33 : decode (zb m_Sums_init) 33 = .ok (.putfield 23, 3) := zdal_p dlA_Sums_init_11 (i := 16) rfl
theorem d_Sums_init_36 : decode (zb m_Sums_init) 36 = .ok (.return_, 1) := zdal_p dlA_Sums_init_11 (i := 17) rfl
theorem dlA_LongRow_init_12 : zdal (zb m_LongRow_init) [(0, (.aload_n 0, 1)), (1, (.invokespecial 1, 3)), (4, (.aload_n 0, 1)), (5, (.iload_n 1, 1)), (6, (.iconst 0, 1)), (7, (.invokestatic 7, 3)), (10, (.newarray .long, 2)), (12, (.putfield 13, 3)), (15, (.return_, 1))] = true := zDs 0 (by decide +kernel)
theorem d_LongRow_init_0 : decode (zb m_LongRow_init) 0 = .ok (.aload_n 0, 1) := zdal_p dlA_LongRow_init_12 (i := 0) rfl
theorem d_LongRow_init_1 : decode (zb m_LongRow_init) 1 = .ok (.invokespecial 1, 3) := zdal_p dlA_LongRow_init_12 (i := 1) rfl
theorem d_LongRow_init_4 : decode (zb m_LongRow_init) 4 = .ok (.aload_n 0, 1) := zdal_p dlA_LongRow_init_12 (i := 2) rfl
theorem d_LongRow_init_5 : decode (zb m_LongRow_init) 5 = .ok (.iload_n 1, 1) := zdal_p dlA_LongRow_init_12 (i := 3) rfl
theorem d_LongRow_init_6 : decode (zb m_LongRow_init) 6 = .ok (.iconst 0, 1) := zdal_p dlA_LongRow_init_12 (i := 4) rfl
theorem d_LongRow_init_7 : decode (zb m_LongRow_init) 7 = .ok (.invokestatic 7, 3) := zdal_p dlA_LongRow_init_12 (i := 5) rfl
theorem d_LongRow_init_10 : decode (zb m_LongRow_init) 10 = .ok (.newarray .long, 2) := zdal_p dlA_LongRow_init_12 (i := 6) rfl
theorem d_LongRow_init_12 : decode (zb m_LongRow_init) 12 = .ok (.putfield 13, 3) := zdal_p dlA_LongRow_init_12 (i := 7) rfl
theorem d_LongRow_init_15 : decode (zb m_LongRow_init) 15 = .ok (.return_, 1) := zdal_p dlA_LongRow_init_12 (i := 8) rfl
theorem dlA_Units_init_13 : zdal (zb m_Units_init) [(0, (.aload_n 0, 1)), (1, (.invokespecial 3, 3)), (4, (.aload_n 0, 1)), (5, (.new 9, 3)), (8, (.dup, 1)), (9, (.bipush 27, 2)), (11, (.invokespecial 11, 3)), (14, (.putfield 14, 3)), (17, (.aload_n 0, 1)), (18, (.new 9, 3)), (21, (.dup, 1)), (22, (.bipush 24, 2)), (24, (.invokespecial 11, 3)), (27, (.putfield 20, 3)), (30, (.aload_n 0, 1)), (31, (.aload_n 1, 1)), (32, (.putfield 23, 3)), (35, (.return_, 1))] = true := zDs 0 (by decide +kernel)
theorem d_Units_init_0 : decode (zb m_Units_init) 0 = .ok (.aload_n 0, 1) := zdal_p dlA_Units_init_13 (i := 0) rfl
theorem d_Units_init_1 : decode (zb m_Units_init) 1 = .ok (.invokespecial 3, 3) := zdal_p dlA_Units_init_13 (i := 1) rfl
theorem d_Units_init_4 : decode (zb m_Units_init) 4 = .ok (.aload_n 0, 1) := zdal_p dlA_Units_init_13 (i := 2) rfl
theorem d_Units_init_5 : decode (zb m_Units_init) 5 = .ok (.new 9, 3) := zdal_p dlA_Units_init_13 (i := 3) rfl
theorem d_Units_init_8 : decode (zb m_Units_init) 8 = .ok (.dup, 1) := zdal_p dlA_Units_init_13 (i := 4) rfl
theorem d_Units_init_9 : decode (zb m_Units_init) 9 = .ok (.bipush 27, 2) := zdal_p dlA_Units_init_13 (i := 5) rfl
theorem d_Units_init_11 : decode (zb m_Units_init) 11 = .ok (.invokespecial 11, 3) := zdal_p dlA_Units_init_13 (i := 6) rfl
theorem d_Units_init_14 : decode (zb m_Units_init) 14 = .ok (.putfield 14, 3) := zdal_p dlA_Units_init_13 (i := 7) rfl
theorem d_Units_init_17 : decode (zb m_Units_init) 17 = .ok (.aload_n 0, 1) := zdal_p dlA_Units_init_13 (i := 8) rfl
theorem d_Units_init_18 : decode (zb m_Units_init) 18 = .ok (.new 9, 3) := zdal_p dlA_Units_init_13 (i := 9) rfl
theorem d_Units_init_21 : decode (zb m_Units_init) 21 = .ok (.dup, 1) := zdal_p dlA_Units_init_13 (i := 10) rfl
theorem d_Units_init_22 : decode (zb m_Units_init) 22 = .ok (.bipush 24, 2) := zdal_p dlA_Units_init_13 (i := 11) rfl
theorem d_Units_init_24 : decode (zb m_Units_init) 24 = .ok (.invokespecial 11, 3) := zdal_p dlA_Units_init_13 (i := 12) rfl
theorem d_Units_init_27 : decode (zb m_Units_init) 27 = .ok (.putfield 20, 3) := zdal_p dlA_Units_init_13 (i := 13) rfl
theorem d_Units_init_30 : decode (zb m_Units_init) 30 = .ok (.aload_n 0, 1) := zdal_p dlA_Units_init_13 (i := 14) rfl
theorem d_Units_init_31 : decode (zb m_Units_init) 31 = .ok (.aload_n 1, 1) := zdal_p dlA_Units_init_13 (i := 15) rfl
theorem d_Units_init_32 : decode (zb m_Units_init) 32 = .ok (.putfield 23, 3) := zdal_p dlA_Units_init_13 (i := 16) rfl
theorem d_Units_init_35 : decode (zb m_Units_init) 35 = .ok (.return_, 1) := zdal_p dlA_Units_init_13 (i := 17) rfl
theorem dlA_Calc_init_14 : zdal (zb m_Calc_init) [(0, (.aload_n 0, 1)), (1, (.invokespecial 3, 3)), (4, (.aload_n 0, 1)), (5, (.new 9, 3)), (8, (.dup, 1)), (9, (.bipush 24, 2)), (11, (.invokespecial 11, 3)), (14, (.putfield 14, 3)), (17, (.aload_n 0, 1)), (18, (.aload_n 1, 1)), (19, (.putfield 20, 3)), (22, (.return_, 1))] = true := zDs 0 (by decide +kernel)
theorem d_Calc_init_0 : decode (zb m_Calc_init) 0 = .ok (.aload_n 0, 1) := zdal_p dlA_Calc_init_14 (i := 0) rfl
theorem d_Calc_init_1 : decode (zb m_Calc_init) 1 = .ok (.invokespecial 3, 3) := zdal_p dlA_Calc_init_14 (i := 1) rfl
theorem d_Calc_init_4 : decode (zb m_Calc_init) 4 = .ok (.aload_n 0, 1) := zdal_p dlA_Calc_init_14 (i := 2) rfl
theorem d_Calc_init_5 : decode (zb m_Calc_init) 5 = .ok (.new 9, 3) := zdal_p dlA_Calc_init_14 (i := 3) rfl
theorem d_Calc_init_8 : decode (zb m_Calc_init) 8 = .ok (.dup, 1) := zdal_p dlA_Calc_init_14 (i := 4) rfl
theorem d_Calc_init_9 : decode (zb m_Calc_init) 9 = .ok (.bipush 24, 2) := zdal_p dlA_Calc_init_14 (i := 5) rfl
theorem d_Calc_init_11 : decode (zb m_Calc_init) 11 = .ok (.invokespecial 11, 3) := zdal_p dlA_Calc_init_14 (i := 6) rfl
theorem d_Calc_init_14 : decode (zb m_Calc_init) 14 = .ok (.putfield 14, 3) := zdal_p dlA_Calc_init_14 (i := 7) rfl
theorem d_Calc_init_17 : decode (zb m_Calc_init) 17 = .ok (.aload_n 0, 1) := zdal_p dlA_Calc_init_14 (i := 8) rfl
theorem d_Calc_init_18 : decode (zb m_Calc_init) 18 = .ok (.aload_n 1, 1) := zdal_p dlA_Calc_init_14 (i := 9) rfl
theorem d_Calc_init_19 : decode (zb m_Calc_init) 19 = .ok (.putfield 20, 3) := zdal_p dlA_Calc_init_14 (i := 10) rfl
theorem d_Calc_init_22 : decode (zb m_Calc_init) 22 = .ok (.return_, 1) := zdal_p dlA_Calc_init_14 (i := 11) rfl
theorem dlA_Troupe_begin_15 : zdal (zb m_Troupe_begin) [(0, (.aload_n 0, 1)), (1, (.getfield 12, 3)), (4, (.iload_n 1, 1)), (5, (.invokevirtual 61, 3)), (8, (.aload_n 0, 1)), (9, (.iconst 0, 1)), (10, (.putfield 64, 3)), (13, (.aload_n 0, 1)), (14, (.iconst 0, 1)), (15, (.putfield 68, 3)), (18, (.aload_n 0, 1)), (19, (.iconst 0, 1)), (20, (.putfield 71, 3)), (23, (.return_, 1))] = true := zDs 0 (by decide +kernel)
theorem d_Troupe_begin_0 : decode (zb m_Troupe_begin) 0 = .ok (.aload_n 0, 1) := zdal_p dlA_Troupe_begin_15 (i := 0) rfl
theorem d_Troupe_begin_1 : decode (zb m_Troupe_begin) 1 = .ok (.getfield 12, 3) := zdal_p dlA_Troupe_begin_15 (i := 1) rfl
theorem d_Troupe_begin_4 : decode (zb m_Troupe_begin) 4 = .ok (.iload_n 1, 1) := zdal_p dlA_Troupe_begin_15 (i := 2) rfl
theorem d_Troupe_begin_5 : decode (zb m_Troupe_begin) 5 = .ok (.invokevirtual 61, 3) := zdal_p dlA_Troupe_begin_15 (i := 3) rfl
theorem d_Troupe_begin_8 : decode (zb m_Troupe_begin) 8 = .ok (.aload_n 0, 1) := zdal_p dlA_Troupe_begin_15 (i := 4) rfl
theorem d_Troupe_begin_9 : decode (zb m_Troupe_begin) 9 = .ok (.iconst 0, 1) := zdal_p dlA_Troupe_begin_15 (i := 5) rfl
theorem d_Troupe_begin_10 : decode (zb m_Troupe_begin) 10 = .ok (.putfield 64, 3) := zdal_p dlA_Troupe_begin_15 (i := 6) rfl
theorem d_Troupe_begin_13 : decode (zb m_Troupe_begin) 13 = .ok (.aload_n 0, 1) := zdal_p dlA_Troupe_begin_15 (i := 7) rfl
theorem d_Troupe_begin_14 : decode (zb m_Troupe_begin) 14 = .ok (.iconst 0, 1) := zdal_p dlA_Troupe_begin_15 (i := 8) rfl
theorem d_Troupe_begin_15 : decode (zb m_Troupe_begin) 15 = .ok (.putfield 68, 3) := zdal_p dlA_Troupe_begin_15 (i := 9) rfl
theorem d_Troupe_begin_18 : decode (zb m_Troupe_begin) 18 = .ok (.aload_n 0, 1) := zdal_p dlA_Troupe_begin_15 (i := 10) rfl
theorem d_Troupe_begin_19 : decode (zb m_Troupe_begin) 19 = .ok (.iconst 0, 1) := zdal_p dlA_Troupe_begin_15 (i := 11) rfl
theorem d_Troupe_begin_20 : decode (zb m_Troupe_begin) 20 = .ok (.putfield 71, 3) := zdal_p dlA_Troupe_begin_15 (i := 12) rfl
theorem d_Troupe_begin_23 : decode (zb m_Troupe_begin) 23 = .ok (.return_, 1) := zdal_p dlA_Troupe_begin_15 (i := 13) rfl
theorem dlA_Group_begin_16 : zdal (zb m_Group_begin) [(0, (.aload_n 0, 1)), (1, (.iload_n 1, 1)), (2, (.putfield 32, 3)), (5, (.aload_n 0, 1)), (6, (.iconst 0, 1)), (7, (.putfield 36, 3)), (10, (.aload_n 0, 1)), (11, (.iconst 0, 1)), (12, (.putfield 39, 3)), (15, (.aload_n 0, 1)), (16, (.invokevirtual 42, 3)), (19, (.pop, 1)), (20, (.return_, 1))] = true := zDs 0 (by decide +kernel)
theorem d_Group_begin_0 : decode (zb m_Group_begin) 0 = .ok (.aload_n 0, 1) := zdal_p dlA_Group_begin_16 (i := 0) rfl
theorem d_Group_begin_1 : decode (zb m_Group_begin) 1 = .ok (.iload_n 1, 1) := zdal_p dlA_Group_begin_16 (i := 1) rfl
theorem d_Group_begin_2 : decode (zb m_Group_begin) 2 = .ok (.putfield 32, 3) := zdal_p dlA_Group_begin_16 (i := 2) rfl
theorem d_Group_begin_5 : decode (zb m_Group_begin) 5 = .ok (.aload_n 0, 1) := zdal_p dlA_Group_begin_16 (i := 3) rfl
theorem d_Group_begin_6 : decode (zb m_Group_begin) 6 = .ok (.iconst 0, 1) := zdal_p dlA_Group_begin_16 (i := 4) rfl
theorem d_Group_begin_7 : decode (zb m_Group_begin) 7 = .ok (.putfield 36, 3) := zdal_p dlA_Group_begin_16 (i := 5) rfl
theorem d_Group_begin_10 : decode (zb m_Group_begin) 10 = .ok (.aload_n 0, 1) := zdal_p dlA_Group_begin_16 (i := 6) rfl
theorem d_Group_begin_11 : decode (zb m_Group_begin) 11 = .ok (.iconst 0, 1) := zdal_p dlA_Group_begin_16 (i := 7) rfl
theorem d_Group_begin_12 : decode (zb m_Group_begin) 12 = .ok (.putfield 39, 3) := zdal_p dlA_Group_begin_16 (i := 8) rfl
theorem d_Group_begin_15 : decode (zb m_Group_begin) 15 = .ok (.aload_n 0, 1) := zdal_p dlA_Group_begin_16 (i := 9) rfl
theorem d_Group_begin_16 : decode (zb m_Group_begin) 16 = .ok (.invokevirtual 42, 3) := zdal_p dlA_Group_begin_16 (i := 10) rfl
theorem d_Group_begin_19 : decode (zb m_Group_begin) 19 = .ok (.pop, 1) := zdal_p dlA_Group_begin_16 (i := 11) rfl
theorem d_Group_begin_20 : decode (zb m_Group_begin) 20 = .ok (.return_, 1) := zdal_p dlA_Group_begin_16 (i := 12) rfl
theorem dlA_Group_gather_17 : zdal (zb m_Group_gather) [(0, (.iconst 0, 1)), (1, (.istore_n 1, 1)), (2, (.iconst 0, 1)), (3, (.istore_n 2, 1)), (4, (.iload_n 2, 1)), (5, (.aload_n 0, 1)), (6, (.getfield 32, 3)), (9, (.if_icmp .ge 17, 3)), (12, (.iload_n 1, 1)), (13, (.iload_n 2, 1)), (14, (.iload_n 2, 1)), (15, (.invokestatic 50, 3)), (18, (.ior, 1)), (19, (.istore_n 1, 1)), (20, (.iinc 2 1, 3)), (23, (.goto (-19), 3)), (26, (.aload_n 0, 1)), (27, (.getfield 20, 3)), (30, (.iconst 0, 1)), (31, (.iload_n 1, 1)), (32, (.invokevirtual 46, 3)), (35, (.aload_n 0, 1)), (36, (.iconst 1, 1)), (37, (.putfield 39, 3))] = true := zDs 0 (by decide +kernel)
theorem d_Group_gather_0 : decode (zb m_Group_gather) 0 = .ok (.iconst 0, 1) := zdal_p dlA_Group_gather_17 (i := 0) rfl
theorem d_Group_gather_1 : decode (zb m_Group_gather) 1 = .ok (.istore_n 1, 1) := zdal_p dlA_Group_gather_17 (i := 1) rfl
theorem d_Group_gather_2 : decode (zb m_Group_gather) 2 = .ok (.iconst 0, 1) := zdal_p dlA_Group_gather_17 (i := 2) rfl
theorem d_Group_gather_3 : decode (zb m_Group_gather) 3 = .ok (.istore_n 2, 1) := zdal_p dlA_Group_gather_17 (i := 3) rfl
theorem d_Group_gather_4 : decode (zb m_Group_gather) 4 = .ok (.iload_n 2, 1) := zdal_p dlA_Group_gather_17 (i := 4) rfl
theorem d_Group_gather_5 : decode (zb m_Group_gather) 5 = .ok (.aload_n 0, 1) := zdal_p dlA_Group_gather_17 (i := 5) rfl
theorem d_Group_gather_6 : decode (zb m_Group_gather) 6 = .ok (.getfield 32, 3) := zdal_p dlA_Group_gather_17 (i := 6) rfl
theorem d_Group_gather_9 : decode (zb m_Group_gather) 9 = .ok (.if_icmp .ge 17, 3) := zdal_p dlA_Group_gather_17 (i := 7) rfl
theorem d_Group_gather_12 : decode (zb m_Group_gather) 12 = .ok (.iload_n 1, 1) := zdal_p dlA_Group_gather_17 (i := 8) rfl
theorem d_Group_gather_13 : decode (zb m_Group_gather) 13 = .ok (.iload_n 2, 1) := zdal_p dlA_Group_gather_17 (i := 9) rfl
theorem d_Group_gather_14 : decode (zb m_Group_gather) 14 = .ok (.iload_n 2, 1) := zdal_p dlA_Group_gather_17 (i := 10) rfl
theorem d_Group_gather_15 : decode (zb m_Group_gather) 15 = .ok (.invokestatic 50, 3) := zdal_p dlA_Group_gather_17 (i := 11) rfl
theorem d_Group_gather_18 : decode (zb m_Group_gather) 18 = .ok (.ior, 1) := zdal_p dlA_Group_gather_17 (i := 12) rfl
theorem d_Group_gather_19 : decode (zb m_Group_gather) 19 = .ok (.istore_n 1, 1) := zdal_p dlA_Group_gather_17 (i := 13) rfl
theorem d_Group_gather_20 : decode (zb m_Group_gather) 20 = .ok (.iinc 2 1, 3) := zdal_p dlA_Group_gather_17 (i := 14) rfl
theorem d_Group_gather_23 : decode (zb m_Group_gather) 23 = .ok (.goto (-19), 3) := zdal_p dlA_Group_gather_17 (i := 15) rfl
theorem d_Group_gather_26 : decode (zb m_Group_gather) 26 = .ok (.aload_n 0, 1) := zdal_p dlA_Group_gather_17 (i := 16) rfl
theorem d_Group_gather_27 : decode (zb m_Group_gather) 27 = .ok (.getfield 20, 3) := zdal_p dlA_Group_gather_17 (i := 17) rfl
theorem d_Group_gather_30 : decode (zb m_Group_gather) 30 = .ok (.iconst 0, 1) := zdal_p dlA_Group_gather_17 (i := 18) rfl
theorem d_Group_gather_31 : decode (zb m_Group_gather) 31 = .ok (.iload_n 1, 1) := zdal_p dlA_Group_gather_17 (i := 19) rfl
theorem d_Group_gather_32 : decode (zb m_Group_gather) 32 = .ok (.invokevirtual 46, 3) := zdal_p dlA_Group_gather_17 (i := 20) rfl
theorem d_Group_gather_35 : decode (zb m_Group_gather) 35 = .ok (.aload_n 0, 1) := zdal_p dlA_Group_gather_17 (i := 21) rfl
theorem d_Group_gather_36 : decode (zb m_Group_gather) 36 = .ok (.iconst 1, 1) := zdal_p dlA_Group_gather_17 (i := 22) rfl
theorem d_Group_gather_37 : decode (zb m_Group_gather) 37 = .ok (.putfield 39, 3) := zdal_p dlA_Group_gather_17 (i := 23) rfl
theorem dlA_Group_gather_18 : zdal (zb m_Group_gather) [(40, (.iconst 0, 1)), (41, (.istore_n 2, 1)), (42, (.iload_n 2, 1)), (43, (.aload_n 0, 1)), (44, (.getfield 39, 3)), (47, (.if_icmp .ge 100, 3)), (50, (.iload_n 2, 1)), (51, (.bipush 24, 2)), (53, (.if_icmp .ge 94, 3)), (56, (.iconst 0, 1)), (57, (.istore_n 3, 1)), (58, (.iload_n 3, 1)), (59, (.aload_n 0, 1)), (60, (.getfield 36, 3)), (63, (.if_icmp .ge 78, 3)), (66, (.aload_n 0, 1)), (67, (.aload_n 0, 1)), (68, (.getfield 20, 3)), (71, (.iload_n 2, 1)), (72, (.invokevirtual 54, 3)), (75, (.aload_n 0, 1)), (76, (.getfield 14, 3)), (79, (.iload_n 3, 1)), (80, (.invokevirtual 54, 3))] = true := zDs 40 (by decide +kernel)
theorem d_Group_gather_40 : decode (zb m_Group_gather) 40 = .ok (.iconst 0, 1) := zdal_p dlA_Group_gather_18 (i := 0) rfl
theorem d_Group_gather_41 : decode (zb m_Group_gather) 41 = .ok (.istore_n 2, 1) := zdal_p dlA_Group_gather_18 (i := 1) rfl
theorem d_Group_gather_42 : decode (zb m_Group_gather) 42 = .ok (.iload_n 2, 1) := zdal_p dlA_Group_gather_18 (i := 2) rfl
theorem d_Group_gather_43 : decode (zb m_Group_gather) 43 = .ok (.aload_n 0, 1) := zdal_p dlA_Group_gather_18 (i := 3) rfl
theorem d_Group_gather_44 : decode (zb m_Group_gather) 44 = .ok (.getfield 39, 3) := zdal_p dlA_Group_gather_18 (i := 4) rfl
theorem d_Group_gather_47 : decode (zb m_Group_gather) 47 = .ok (.if_icmp .ge 100, 3) := zdal_p dlA_Group_gather_18 (i := 5) rfl
theorem d_Group_gather_50 : decode (zb m_Group_gather) 50 = .ok (.iload_n 2, 1) := zdal_p dlA_Group_gather_18 (i := 6) rfl
theorem d_Group_gather_51 : decode (zb m_Group_gather) 51 = .ok (.bipush 24, 2) := zdal_p dlA_Group_gather_18 (i := 7) rfl
theorem d_Group_gather_53 : decode (zb m_Group_gather) 53 = .ok (.if_icmp .ge 94, 3) := zdal_p dlA_Group_gather_18 (i := 8) rfl
theorem d_Group_gather_56 : decode (zb m_Group_gather) 56 = .ok (.iconst 0, 1) := zdal_p dlA_Group_gather_18 (i := 9) rfl
theorem d_Group_gather_57 : decode (zb m_Group_gather) 57 = .ok (.istore_n 3, 1) := zdal_p dlA_Group_gather_18 (i := 10) rfl
theorem d_Group_gather_58 : decode (zb m_Group_gather) 58 = .ok (.iload_n 3, 1) := zdal_p dlA_Group_gather_18 (i := 11) rfl
theorem d_Group_gather_59 : decode (zb m_Group_gather) 59 = .ok (.aload_n 0, 1) := zdal_p dlA_Group_gather_18 (i := 12) rfl
theorem d_Group_gather_60 : decode (zb m_Group_gather) 60 = .ok (.getfield 36, 3) := zdal_p dlA_Group_gather_18 (i := 13) rfl
theorem d_Group_gather_63 : decode (zb m_Group_gather) 63 = .ok (.if_icmp .ge 78, 3) := zdal_p dlA_Group_gather_18 (i := 14) rfl
theorem d_Group_gather_66 : decode (zb m_Group_gather) 66 = .ok (.aload_n 0, 1) := zdal_p dlA_Group_gather_18 (i := 15) rfl
theorem d_Group_gather_67 : decode (zb m_Group_gather) 67 = .ok (.aload_n 0, 1) := zdal_p dlA_Group_gather_18 (i := 16) rfl
theorem d_Group_gather_68 : decode (zb m_Group_gather) 68 = .ok (.getfield 20, 3) := zdal_p dlA_Group_gather_18 (i := 17) rfl
theorem d_Group_gather_71 : decode (zb m_Group_gather) 71 = .ok (.iload_n 2, 1) := zdal_p dlA_Group_gather_18 (i := 18) rfl
theorem d_Group_gather_72 : decode (zb m_Group_gather) 72 = .ok (.invokevirtual 54, 3) := zdal_p dlA_Group_gather_18 (i := 19) rfl
theorem d_Group_gather_75 : decode (zb m_Group_gather) 75 = .ok (.aload_n 0, 1) := zdal_p dlA_Group_gather_18 (i := 20) rfl
theorem d_Group_gather_76 : decode (zb m_Group_gather) 76 = .ok (.getfield 14, 3) := zdal_p dlA_Group_gather_18 (i := 21) rfl
theorem d_Group_gather_79 : decode (zb m_Group_gather) 79 = .ok (.iload_n 3, 1) := zdal_p dlA_Group_gather_18 (i := 22) rfl
theorem d_Group_gather_80 : decode (zb m_Group_gather) 80 = .ok (.invokevirtual 54, 3) := zdal_p dlA_Group_gather_18 (i := 23) rfl
theorem dlA_Group_gather_19 : zdal (zb m_Group_gather) [(83, (.invokevirtual 58, 3)), (86, (.istore 4, 2)), (88, (.aload_n 0, 1)), (89, (.iload 4, 2)), (91, (.invokevirtual 61, 3)), (94, (.iconst (-1), 1)), (95, (.if_icmp .eq 6, 3)), (98, (.goto 37, 3)), (101, (.aload_n 0, 1)), (102, (.getfield 39, 3)), (105, (.bipush 24, 2)), (107, (.if_icmp .lt 5, 3)), (110, (.iconst 0, 1)), (111, (.ireturn, 1)), (112, (.aload_n 0, 1)), (113, (.getfield 20, 3)), (116, (.aload_n 0, 1)), (117, (.getfield 39, 3)), (120, (.iload 4, 2)), (122, (.invokevirtual 46, 3)), (125, (.aload_n 0, 1)), (126, (.dup, 1)), (127, (.getfield 39, 3)), (130, (.iconst 1, 1))] = true := zDs 83 (by decide +kernel)
theorem d_Group_gather_83 : decode (zb m_Group_gather) 83 = .ok (.invokevirtual 58, 3) := zdal_p dlA_Group_gather_19 (i := 0) rfl
theorem d_Group_gather_86 : decode (zb m_Group_gather) 86 = .ok (.istore 4, 2) := zdal_p dlA_Group_gather_19 (i := 1) rfl
theorem d_Group_gather_88 : decode (zb m_Group_gather) 88 = .ok (.aload_n 0, 1) := zdal_p dlA_Group_gather_19 (i := 2) rfl
theorem d_Group_gather_89 : decode (zb m_Group_gather) 89 = .ok (.iload 4, 2) := zdal_p dlA_Group_gather_19 (i := 3) rfl
theorem d_Group_gather_91 : decode (zb m_Group_gather) 91 = .ok (.invokevirtual 61, 3) := zdal_p dlA_Group_gather_19 (i := 4) rfl
theorem d_Group_gather_94 : decode (zb m_Group_gather) 94 = .ok (.iconst (-1), 1) := zdal_p dlA_Group_gather_19 (i := 5) rfl
theorem d_Group_gather_95 : decode (zb m_Group_gather) 95 = .ok (.if_icmp .eq 6, 3) := zdal_p dlA_Group_gather_19 (i := 6) rfl
theorem d_Group_gather_98 : decode (zb m_Group_gather) 98 = .ok (.goto 37, 3) := zdal_p dlA_Group_gather_19 (i := 7) rfl
theorem d_Group_gather_101 : decode (zb m_Group_gather) 101 = .ok (.aload_n 0, 1) := zdal_p dlA_Group_gather_19 (i := 8) rfl
theorem d_Group_gather_102 : decode (zb m_Group_gather) 102 = .ok (.getfield 39, 3) := zdal_p dlA_Group_gather_19 (i := 9) rfl
theorem d_Group_gather_105 : decode (zb m_Group_gather) 105 = .ok (.bipush 24, 2) := zdal_p dlA_Group_gather_19 (i := 10) rfl
theorem d_Group_gather_107 : decode (zb m_Group_gather) 107 = .ok (.if_icmp .lt 5, 3) := zdal_p dlA_Group_gather_19 (i := 11) rfl
theorem d_Group_gather_110 : decode (zb m_Group_gather) 110 = .ok (.iconst 0, 1) := zdal_p dlA_Group_gather_19 (i := 12) rfl
theorem d_Group_gather_111 : decode (zb m_Group_gather) 111 = .ok (.ireturn, 1) := zdal_p dlA_Group_gather_19 (i := 13) rfl
theorem d_Group_gather_112 : decode (zb m_Group_gather) 112 = .ok (.aload_n 0, 1) := zdal_p dlA_Group_gather_19 (i := 14) rfl
theorem d_Group_gather_113 : decode (zb m_Group_gather) 113 = .ok (.getfield 20, 3) := zdal_p dlA_Group_gather_19 (i := 15) rfl
theorem d_Group_gather_116 : decode (zb m_Group_gather) 116 = .ok (.aload_n 0, 1) := zdal_p dlA_Group_gather_19 (i := 16) rfl
theorem d_Group_gather_117 : decode (zb m_Group_gather) 117 = .ok (.getfield 39, 3) := zdal_p dlA_Group_gather_19 (i := 17) rfl
theorem d_Group_gather_120 : decode (zb m_Group_gather) 120 = .ok (.iload 4, 2) := zdal_p dlA_Group_gather_19 (i := 18) rfl
theorem d_Group_gather_122 : decode (zb m_Group_gather) 122 = .ok (.invokevirtual 46, 3) := zdal_p dlA_Group_gather_19 (i := 19) rfl
theorem d_Group_gather_125 : decode (zb m_Group_gather) 125 = .ok (.aload_n 0, 1) := zdal_p dlA_Group_gather_19 (i := 20) rfl
theorem d_Group_gather_126 : decode (zb m_Group_gather) 126 = .ok (.dup, 1) := zdal_p dlA_Group_gather_19 (i := 21) rfl
theorem d_Group_gather_127 : decode (zb m_Group_gather) 127 = .ok (.getfield 39, 3) := zdal_p dlA_Group_gather_19 (i := 22) rfl
theorem d_Group_gather_130 : decode (zb m_Group_gather) 130 = .ok (.iconst 1, 1) := zdal_p dlA_Group_gather_19 (i := 23) rfl
theorem dlA_Group_gather_20 : zdal (zb m_Group_gather) [(131, (.iadd, 1)), (132, (.putfield 39, 3)), (135, (.iinc 3 1, 3)), (138, (.goto (-80), 3)), (141, (.iinc 2 1, 3)), (144, (.goto (-102), 3)), (147, (.iconst 1, 1)), (148, (.ireturn, 1))] = true := zDs 131 (by decide +kernel)
theorem d_Group_gather_131 : decode (zb m_Group_gather) 131 = .ok (.iadd, 1) := zdal_p dlA_Group_gather_20 (i := 0) rfl
theorem d_Group_gather_132 : decode (zb m_Group_gather) 132 = .ok (.putfield 39, 3) := zdal_p dlA_Group_gather_20 (i := 1) rfl
theorem d_Group_gather_135 : decode (zb m_Group_gather) 135 = .ok (.iinc 3 1, 3) := zdal_p dlA_Group_gather_20 (i := 2) rfl
theorem d_Group_gather_138 : decode (zb m_Group_gather) 138 = .ok (.goto (-80), 3) := zdal_p dlA_Group_gather_20 (i := 3) rfl
theorem d_Group_gather_141 : decode (zb m_Group_gather) 141 = .ok (.iinc 2 1, 3) := zdal_p dlA_Group_gather_20 (i := 4) rfl
theorem d_Group_gather_144 : decode (zb m_Group_gather) 144 = .ok (.goto (-102), 3) := zdal_p dlA_Group_gather_20 (i := 5) rfl
theorem d_Group_gather_147 : decode (zb m_Group_gather) 147 = .ok (.iconst 1, 1) := zdal_p dlA_Group_gather_20 (i := 6) rfl
theorem d_Group_gather_148 : decode (zb m_Group_gather) 148 = .ok (.ireturn, 1) := zdal_p dlA_Group_gather_20 (i := 7) rfl
theorem dlA_T_codeOf_21 : zdal (zb m_T_codeOf) [(0, (.iload_n 0, 1)), (1, (.iconst 3, 1)), (2, (.iconst 5, 1)), (3, (.iload_n 1, 1)), (4, (.isub, 1)), (5, (.imul, 1)), (6, (.ishl, 1)), (7, (.ireturn, 1))] = true := zDs 0 (by decide +kernel)
theorem d_T_codeOf_0 : decode (zb m_T_codeOf) 0 = .ok (.iload_n 0, 1) := zdal_p dlA_T_codeOf_21 (i := 0) rfl
theorem d_T_codeOf_1 : decode (zb m_T_codeOf) 1 = .ok (.iconst 3, 1) := zdal_p dlA_T_codeOf_21 (i := 1) rfl
theorem d_T_codeOf_2 : decode (zb m_T_codeOf) 2 = .ok (.iconst 5, 1) := zdal_p dlA_T_codeOf_21 (i := 2) rfl
theorem d_T_codeOf_3 : decode (zb m_T_codeOf) 3 = .ok (.iload_n 1, 1) := zdal_p dlA_T_codeOf_21 (i := 3) rfl
theorem d_T_codeOf_4 : decode (zb m_T_codeOf) 4 = .ok (.isub, 1) := zdal_p dlA_T_codeOf_21 (i := 4) rfl
theorem d_T_codeOf_5 : decode (zb m_T_codeOf) 5 = .ok (.imul, 1) := zdal_p dlA_T_codeOf_21 (i := 5) rfl
theorem d_T_codeOf_6 : decode (zb m_T_codeOf) 6 = .ok (.ishl, 1) := zdal_p dlA_T_codeOf_21 (i := 6) rfl
theorem d_T_codeOf_7 : decode (zb m_T_codeOf) 7 = .ok (.ireturn, 1) := zdal_p dlA_T_codeOf_21 (i := 7) rfl
theorem dlA_IntRow_put_22 : zdal (zb m_IntRow_put) [(0, (.iload_n 1, 1)), (1, (.ifCond .lt 19, 3)), (4, (.iload_n 1, 1)), (5, (.aload_n 0, 1)), (6, (.getfield 13, 3)), (9, (.arraylength, 1)), (10, (.if_icmp .ge 10, 3)), (13, (.aload_n 0, 1)), (14, (.getfield 13, 3)), (17, (.iload_n 1, 1)), (18, (.iload_n 2, 1)), (19, (.iastore, 1)), (20, (.return_, 1))] = true := zDs 0 (by decide +kernel)
theorem d_IntRow_put_0 : decode (zb m_IntRow_put) 0 = .ok (.iload_n 1, 1) := zdal_p dlA_IntRow_put_22 (i := 0) rfl
theorem d_IntRow_put_1 : decode (zb m_IntRow_put) 1 = .ok (.ifCond .lt 19, 3) := zdal_p dlA_IntRow_put_22 (i := 1) rfl
theorem d_IntRow_put_4 : decode (zb m_IntRow_put) 4 = .ok (.iload_n 1, 1) := zdal_p dlA_IntRow_put_22 (i := 2) rfl
theorem d_IntRow_put_5 : decode (zb m_IntRow_put) 5 = .ok (.aload_n 0, 1) := zdal_p dlA_IntRow_put_22 (i := 3) rfl
theorem d_IntRow_put_6 : decode (zb m_IntRow_put) 6 = .ok (.getfield 13, 3) := zdal_p dlA_IntRow_put_22 (i := 4) rfl
theorem d_IntRow_put_9 : decode (zb m_IntRow_put) 9 = .ok (.arraylength, 1) := zdal_p dlA_IntRow_put_22 (i := 5) rfl
theorem d_IntRow_put_10 : decode (zb m_IntRow_put) 10 = .ok (.if_icmp .ge 10, 3) := zdal_p dlA_IntRow_put_22 (i := 6) rfl
theorem d_IntRow_put_13 : decode (zb m_IntRow_put) 13 = .ok (.aload_n 0, 1) := zdal_p dlA_IntRow_put_22 (i := 7) rfl
theorem d_IntRow_put_14 : decode (zb m_IntRow_put) 14 = .ok (.getfield 13, 3) := zdal_p dlA_IntRow_put_22 (i := 8) rfl
theorem d_IntRow_put_17 : decode (zb m_IntRow_put) 17 = .ok (.iload_n 1, 1) := zdal_p dlA_IntRow_put_22 (i := 9) rfl
theorem d_IntRow_put_18 : decode (zb m_IntRow_put) 18 = .ok (.iload_n 2, 1) := zdal_p dlA_IntRow_put_22 (i := 10) rfl
theorem d_IntRow_put_19 : decode (zb m_IntRow_put) 19 = .ok (.iastore, 1) := zdal_p dlA_IntRow_put_22 (i := 11) rfl
theorem d_IntRow_put_20 : decode (zb m_IntRow_put) 20 = .ok (.return_, 1) := zdal_p dlA_IntRow_put_22 (i := 12) rfl
theorem dlA_IntRow_at_23 : zdal (zb m_IntRow_at) [(0, (.iload_n 1, 1)), (1, (.ifCond .lt 21, 3)), (4, (.iload_n 1, 1)), (5, (.aload_n 0, 1)), (6, (.getfield 13, 3)), (9, (.arraylength, 1)), (10, (.if_icmp .ge 12, 3)), (13, (.aload_n 0, 1)), (14, (.getfield 13, 3)), (17, (.iload_n 1, 1)), (18, (.iaload, 1)), (19, (.goto 4, 3)), (22, (.iconst 0, 1)), (23, (.ireturn, 1))] = true := zDs 0 (by decide +kernel)
theorem d_IntRow_at_0 : decode (zb m_IntRow_at) 0 = .ok (.iload_n 1, 1) := zdal_p dlA_IntRow_at_23 (i := 0) rfl
theorem d_IntRow_at_1 : decode (zb m_IntRow_at) 1 = .ok (.ifCond .lt 21, 3) := zdal_p dlA_IntRow_at_23 (i := 1) rfl
theorem d_IntRow_at_4 : decode (zb m_IntRow_at) 4 = .ok (.iload_n 1, 1) := zdal_p dlA_IntRow_at_23 (i := 2) rfl
theorem d_IntRow_at_5 : decode (zb m_IntRow_at) 5 = .ok (.aload_n 0, 1) := zdal_p dlA_IntRow_at_23 (i := 3) rfl
theorem d_IntRow_at_6 : decode (zb m_IntRow_at) 6 = .ok (.getfield 13, 3) := zdal_p dlA_IntRow_at_23 (i := 4) rfl
theorem d_IntRow_at_9 : decode (zb m_IntRow_at) 9 = .ok (.arraylength, 1) := zdal_p dlA_IntRow_at_23 (i := 5) rfl
theorem d_IntRow_at_10 : decode (zb m_IntRow_at) 10 = .ok (.if_icmp .ge 12, 3) := zdal_p dlA_IntRow_at_23 (i := 6) rfl
theorem d_IntRow_at_13 : decode (zb m_IntRow_at) 13 = .ok (.aload_n 0, 1) := zdal_p dlA_IntRow_at_23 (i := 7) rfl
theorem d_IntRow_at_14 : decode (zb m_IntRow_at) 14 = .ok (.getfield 13, 3) := zdal_p dlA_IntRow_at_23 (i := 8) rfl
theorem d_IntRow_at_17 : decode (zb m_IntRow_at) 17 = .ok (.iload_n 1, 1) := zdal_p dlA_IntRow_at_23 (i := 9) rfl
theorem d_IntRow_at_18 : decode (zb m_IntRow_at) 18 = .ok (.iaload, 1) := zdal_p dlA_IntRow_at_23 (i := 10) rfl
theorem d_IntRow_at_19 : decode (zb m_IntRow_at) 19 = .ok (.goto 4, 3) := zdal_p dlA_IntRow_at_23 (i := 11) rfl
theorem d_IntRow_at_22 : decode (zb m_IntRow_at) 22 = .ok (.iconst 0, 1) := zdal_p dlA_IntRow_at_23 (i := 12) rfl
theorem d_IntRow_at_23 : decode (zb m_IntRow_at) 23 = .ok (.ireturn, 1) := zdal_p dlA_IntRow_at_23 (i := 13) rfl
theorem dlA_Group_behind_24 : zdal (zb m_Group_behind) [(0, (.iconst 0, 1)), (1, (.istore_n 3, 1)), (2, (.iconst 0, 1)), (3, (.istore 4, 2)), (5, (.iload 4, 2)), (7, (.aload_n 0, 1)), (8, (.getfield 32, 3)), (11, (.if_icmp .ge 27, 3)), (14, (.iload_n 3, 1)), (15, (.iload_n 2, 1)), (16, (.iload_n 1, 1)), (17, (.iload 4, 2)), (19, (.invokestatic 64, 3)), (22, (.invokestatic 64, 3)), (25, (.iload 4, 2)), (27, (.invokestatic 50, 3)), (30, (.ior, 1)), (31, (.istore_n 3, 1)), (32, (.iinc 4 1, 3)), (35, (.goto (-30), 3)), (38, (.iload_n 3, 1)), (39, (.ireturn, 1))] = true := zDs 0 (by decide +kernel)
theorem d_Group_behind_0 : decode (zb m_Group_behind) 0 = .ok (.iconst 0, 1) := zdal_p dlA_Group_behind_24 (i := 0) rfl
theorem d_Group_behind_1 : decode (zb m_Group_behind) 1 = .ok (.istore_n 3, 1) := zdal_p dlA_Group_behind_24 (i := 1) rfl
theorem d_Group_behind_2 : decode (zb m_Group_behind) 2 = .ok (.iconst 0, 1) := zdal_p dlA_Group_behind_24 (i := 2) rfl
theorem d_Group_behind_3 : decode (zb m_Group_behind) 3 = .ok (.istore 4, 2) := zdal_p dlA_Group_behind_24 (i := 3) rfl
theorem d_Group_behind_5 : decode (zb m_Group_behind) 5 = .ok (.iload 4, 2) := zdal_p dlA_Group_behind_24 (i := 4) rfl
theorem d_Group_behind_7 : decode (zb m_Group_behind) 7 = .ok (.aload_n 0, 1) := zdal_p dlA_Group_behind_24 (i := 5) rfl
theorem d_Group_behind_8 : decode (zb m_Group_behind) 8 = .ok (.getfield 32, 3) := zdal_p dlA_Group_behind_24 (i := 6) rfl
theorem d_Group_behind_11 : decode (zb m_Group_behind) 11 = .ok (.if_icmp .ge 27, 3) := zdal_p dlA_Group_behind_24 (i := 7) rfl
theorem d_Group_behind_14 : decode (zb m_Group_behind) 14 = .ok (.iload_n 3, 1) := zdal_p dlA_Group_behind_24 (i := 8) rfl
theorem d_Group_behind_15 : decode (zb m_Group_behind) 15 = .ok (.iload_n 2, 1) := zdal_p dlA_Group_behind_24 (i := 9) rfl
theorem d_Group_behind_16 : decode (zb m_Group_behind) 16 = .ok (.iload_n 1, 1) := zdal_p dlA_Group_behind_24 (i := 10) rfl
theorem d_Group_behind_17 : decode (zb m_Group_behind) 17 = .ok (.iload 4, 2) := zdal_p dlA_Group_behind_24 (i := 11) rfl
theorem d_Group_behind_19 : decode (zb m_Group_behind) 19 = .ok (.invokestatic 64, 3) := zdal_p dlA_Group_behind_24 (i := 12) rfl
theorem d_Group_behind_22 : decode (zb m_Group_behind) 22 = .ok (.invokestatic 64, 3) := zdal_p dlA_Group_behind_24 (i := 13) rfl
theorem d_Group_behind_25 : decode (zb m_Group_behind) 25 = .ok (.iload 4, 2) := zdal_p dlA_Group_behind_24 (i := 14) rfl
theorem d_Group_behind_27 : decode (zb m_Group_behind) 27 = .ok (.invokestatic 50, 3) := zdal_p dlA_Group_behind_24 (i := 15) rfl
theorem d_Group_behind_30 : decode (zb m_Group_behind) 30 = .ok (.ior, 1) := zdal_p dlA_Group_behind_24 (i := 16) rfl
theorem d_Group_behind_31 : decode (zb m_Group_behind) 31 = .ok (.istore_n 3, 1) := zdal_p dlA_Group_behind_24 (i := 17) rfl
theorem d_Group_behind_32 : decode (zb m_Group_behind) 32 = .ok (.iinc 4 1, 3) := zdal_p dlA_Group_behind_24 (i := 18) rfl
theorem d_Group_behind_35 : decode (zb m_Group_behind) 35 = .ok (.goto (-30), 3) := zdal_p dlA_Group_behind_24 (i := 19) rfl
theorem d_Group_behind_38 : decode (zb m_Group_behind) 38 = .ok (.iload_n 3, 1) := zdal_p dlA_Group_behind_24 (i := 20) rfl
theorem d_Group_behind_39 : decode (zb m_Group_behind) 39 = .ok (.ireturn, 1) := zdal_p dlA_Group_behind_24 (i := 21) rfl
theorem dlA_T_placeIn_25 : zdal (zb m_T_placeIn) [(0, (.iload_n 0, 1)), (1, (.iconst 3, 1)), (2, (.iconst 5, 1)), (3, (.iload_n 1, 1)), (4, (.isub, 1)), (5, (.imul, 1)), (6, (.ishr, 1)), (7, (.bipush 7, 2)), (9, (.iand, 1)), (10, (.ireturn, 1))] = true := zDs 0 (by decide +kernel)
theorem d_T_placeIn_0 : decode (zb m_T_placeIn) 0 = .ok (.iload_n 0, 1) := zdal_p dlA_T_placeIn_25 (i := 0) rfl
theorem d_T_placeIn_1 : decode (zb m_T_placeIn) 1 = .ok (.iconst 3, 1) := zdal_p dlA_T_placeIn_25 (i := 1) rfl
theorem d_T_placeIn_2 : decode (zb m_T_placeIn) 2 = .ok (.iconst 5, 1) := zdal_p dlA_T_placeIn_25 (i := 2) rfl
theorem d_T_placeIn_3 : decode (zb m_T_placeIn) 3 = .ok (.iload_n 1, 1) := zdal_p dlA_T_placeIn_25 (i := 3) rfl
theorem d_T_placeIn_4 : decode (zb m_T_placeIn) 4 = .ok (.isub, 1) := zdal_p dlA_T_placeIn_25 (i := 4) rfl
theorem d_T_placeIn_5 : decode (zb m_T_placeIn) 5 = .ok (.imul, 1) := zdal_p dlA_T_placeIn_25 (i := 5) rfl
theorem d_T_placeIn_6 : decode (zb m_T_placeIn) 6 = .ok (.ishr, 1) := zdal_p dlA_T_placeIn_25 (i := 6) rfl
theorem d_T_placeIn_7 : decode (zb m_T_placeIn) 7 = .ok (.bipush 7, 2) := zdal_p dlA_T_placeIn_25 (i := 7) rfl
theorem d_T_placeIn_9 : decode (zb m_T_placeIn) 9 = .ok (.iand, 1) := zdal_p dlA_T_placeIn_25 (i := 8) rfl
theorem d_T_placeIn_10 : decode (zb m_T_placeIn) 10 = .ok (.ireturn, 1) := zdal_p dlA_T_placeIn_25 (i := 9) rfl
theorem dlA_Group_indexOf_26 : zdal (zb m_Group_indexOf) [(0, (.iconst 0, 1)), (1, (.istore_n 2, 1)), (2, (.iload_n 2, 1)), (3, (.aload_n 0, 1)), (4, (.getfield 39, 3)), (7, (.if_icmp .ge 23, 3)), (10, (.aload_n 0, 1)), (11, (.getfield 20, 3)), (14, (.iload_n 2, 1)), (15, (.invokevirtual 54, 3)), (18, (.iload_n 1, 1)), (19, (.if_icmp .ne 5, 3)), (22, (.iload_n 2, 1)), (23, (.ireturn, 1)), (24, (.iinc 2 1, 3)), (27, (.goto (-25), 3)), (30, (.iconst (-1), 1)), (31, (.ireturn, 1))] = true := zDs 0 (by decide +kernel)
theorem d_Group_indexOf_0 : decode (zb m_Group_indexOf) 0 = .ok (.iconst 0, 1) := zdal_p dlA_Group_indexOf_26 (i := 0) rfl
theorem d_Group_indexOf_1 : decode (zb m_Group_indexOf) 1 = .ok (.istore_n 2, 1) := zdal_p dlA_Group_indexOf_26 (i := 1) rfl
theorem d_Group_indexOf_2 : decode (zb m_Group_indexOf) 2 = .ok (.iload_n 2, 1) := zdal_p dlA_Group_indexOf_26 (i := 2) rfl
theorem d_Group_indexOf_3 : decode (zb m_Group_indexOf) 3 = .ok (.aload_n 0, 1) := zdal_p dlA_Group_indexOf_26 (i := 3) rfl
theorem d_Group_indexOf_4 : decode (zb m_Group_indexOf) 4 = .ok (.getfield 39, 3) := zdal_p dlA_Group_indexOf_26 (i := 4) rfl
theorem d_Group_indexOf_7 : decode (zb m_Group_indexOf) 7 = .ok (.if_icmp .ge 23, 3) := zdal_p dlA_Group_indexOf_26 (i := 5) rfl
theorem d_Group_indexOf_10 : decode (zb m_Group_indexOf) 10 = .ok (.aload_n 0, 1) := zdal_p dlA_Group_indexOf_26 (i := 6) rfl
theorem d_Group_indexOf_11 : decode (zb m_Group_indexOf) 11 = .ok (.getfield 20, 3) := zdal_p dlA_Group_indexOf_26 (i := 7) rfl
theorem d_Group_indexOf_14 : decode (zb m_Group_indexOf) 14 = .ok (.iload_n 2, 1) := zdal_p dlA_Group_indexOf_26 (i := 8) rfl
theorem d_Group_indexOf_15 : decode (zb m_Group_indexOf) 15 = .ok (.invokevirtual 54, 3) := zdal_p dlA_Group_indexOf_26 (i := 9) rfl
theorem d_Group_indexOf_18 : decode (zb m_Group_indexOf) 18 = .ok (.iload_n 1, 1) := zdal_p dlA_Group_indexOf_26 (i := 10) rfl
theorem d_Group_indexOf_19 : decode (zb m_Group_indexOf) 19 = .ok (.if_icmp .ne 5, 3) := zdal_p dlA_Group_indexOf_26 (i := 11) rfl
theorem d_Group_indexOf_22 : decode (zb m_Group_indexOf) 22 = .ok (.iload_n 2, 1) := zdal_p dlA_Group_indexOf_26 (i := 12) rfl
theorem d_Group_indexOf_23 : decode (zb m_Group_indexOf) 23 = .ok (.ireturn, 1) := zdal_p dlA_Group_indexOf_26 (i := 13) rfl
theorem d_Group_indexOf_24 : decode (zb m_Group_indexOf) 24 = .ok (.iinc 2 1, 3) := zdal_p dlA_Group_indexOf_26 (i := 14) rfl
theorem d_Group_indexOf_27 : decode (zb m_Group_indexOf) 27 = .ok (.goto (-25), 3) := zdal_p dlA_Group_indexOf_26 (i := 15) rfl
theorem d_Group_indexOf_30 : decode (zb m_Group_indexOf) 30 = .ok (.iconst (-1), 1) := zdal_p dlA_Group_indexOf_26 (i := 16) rfl
theorem d_Group_indexOf_31 : decode (zb m_Group_indexOf) 31 = .ok (.ireturn, 1) := zdal_p dlA_Group_indexOf_26 (i := 17) rfl
theorem dlA_Troupe_settle_27 : zdal (zb m_Troupe_settle) [(0, (.aload_n 0, 1)), (1, (.getfield 12, 3)), (4, (.invokevirtual 74, 3)), (7, (.aload_n 0, 1)), (8, (.getfield 23, 3)), (11, (.invokevirtual 77, 3)), (14, (.aload_n 0, 1)), (15, (.getfield 39, 3)), (18, (.invokevirtual 78, 3)), (21, (.aload_n 0, 1)), (22, (.getfield 32, 3)), (25, (.iconst 0, 1)), (26, (.iconst (-1), 1)), (27, (.lconst 0, 1)), (28, (.invokevirtual 81, 3)), (31, (.return_, 1))] = true := zDs 0 (by decide +kernel)
theorem d_Troupe_settle_0 : decode (zb m_Troupe_settle) 0 = .ok (.aload_n 0, 1) := zdal_p dlA_Troupe_settle_27 (i := 0) rfl
theorem d_Troupe_settle_1 : decode (zb m_Troupe_settle) 1 = .ok (.getfield 12, 3) := zdal_p dlA_Troupe_settle_27 (i := 1) rfl
theorem d_Troupe_settle_4 : decode (zb m_Troupe_settle) 4 = .ok (.invokevirtual 74, 3) := zdal_p dlA_Troupe_settle_27 (i := 2) rfl
theorem d_Troupe_settle_7 : decode (zb m_Troupe_settle) 7 = .ok (.aload_n 0, 1) := zdal_p dlA_Troupe_settle_27 (i := 3) rfl
theorem d_Troupe_settle_8 : decode (zb m_Troupe_settle) 8 = .ok (.getfield 23, 3) := zdal_p dlA_Troupe_settle_27 (i := 4) rfl
theorem d_Troupe_settle_11 : decode (zb m_Troupe_settle) 11 = .ok (.invokevirtual 77, 3) := zdal_p dlA_Troupe_settle_27 (i := 5) rfl
theorem d_Troupe_settle_14 : decode (zb m_Troupe_settle) 14 = .ok (.aload_n 0, 1) := zdal_p dlA_Troupe_settle_27 (i := 6) rfl
theorem d_Troupe_settle_15 : decode (zb m_Troupe_settle) 15 = .ok (.getfield 39, 3) := zdal_p dlA_Troupe_settle_27 (i := 7) rfl
theorem d_Troupe_settle_18 : decode (zb m_Troupe_settle) 18 = .ok (.invokevirtual 78, 3) := zdal_p dlA_Troupe_settle_27 (i := 8) rfl
theorem d_Troupe_settle_21 : decode (zb m_Troupe_settle) 21 = .ok (.aload_n 0, 1) := zdal_p dlA_Troupe_settle_27 (i := 9) rfl
theorem d_Troupe_settle_22 : decode (zb m_Troupe_settle) 22 = .ok (.getfield 32, 3) := zdal_p dlA_Troupe_settle_27 (i := 10) rfl
theorem d_Troupe_settle_25 : decode (zb m_Troupe_settle) 25 = .ok (.iconst 0, 1) := zdal_p dlA_Troupe_settle_27 (i := 11) rfl
theorem d_Troupe_settle_26 : decode (zb m_Troupe_settle) 26 = .ok (.iconst (-1), 1) := zdal_p dlA_Troupe_settle_27 (i := 12) rfl
theorem d_Troupe_settle_27 : decode (zb m_Troupe_settle) 27 = .ok (.lconst 0, 1) := zdal_p dlA_Troupe_settle_27 (i := 13) rfl
theorem d_Troupe_settle_28 : decode (zb m_Troupe_settle) 28 = .ok (.invokevirtual 81, 3) := zdal_p dlA_Troupe_settle_27 (i := 14) rfl
theorem d_Troupe_settle_31 : decode (zb m_Troupe_settle) 31 = .ok (.return_, 1) := zdal_p dlA_Troupe_settle_27 (i := 15) rfl
theorem dlA_Group_settle_28 : zdal (zb m_Group_settle) [(0, (.iconst 1, 1)), (1, (.istore_n 1, 1)), (2, (.iload_n 1, 1)), (3, (.aload_n 0, 1)), (4, (.getfield 39, 3)), (7, (.if_icmp .ge 71, 3)), (10, (.aload_n 0, 1)), (11, (.getfield 20, 3)), (14, (.iload_n 1, 1)), (15, (.invokevirtual 54, 3)), (18, (.istore_n 2, 1)), (19, (.iload_n 1, 1)), (20, (.istore_n 3, 1)), (21, (.iload_n 3, 1)), (22, (.ifCond .le 41, 3)), (25, (.aload_n 0, 1)), (26, (.getfield 20, 3)), (29, (.iload_n 3, 1)), (30, (.iconst 1, 1)), (31, (.isub, 1)), (32, (.invokevirtual 54, 3)), (35, (.iload_n 2, 1)), (36, (.if_icmp .le 27, 3)), (39, (.aload_n 0, 1))] = true := zDs 0 (by decide +kernel)
theorem d_Group_settle_0 : decode (zb m_Group_settle) 0 = .ok (.iconst 1, 1) := zdal_p dlA_Group_settle_28 (i := 0) rfl
theorem d_Group_settle_1 : decode (zb m_Group_settle) 1 = .ok (.istore_n 1, 1) := zdal_p dlA_Group_settle_28 (i := 1) rfl
theorem d_Group_settle_2 : decode (zb m_Group_settle) 2 = .ok (.iload_n 1, 1) := zdal_p dlA_Group_settle_28 (i := 2) rfl
theorem d_Group_settle_3 : decode (zb m_Group_settle) 3 = .ok (.aload_n 0, 1) := zdal_p dlA_Group_settle_28 (i := 3) rfl
theorem d_Group_settle_4 : decode (zb m_Group_settle) 4 = .ok (.getfield 39, 3) := zdal_p dlA_Group_settle_28 (i := 4) rfl
theorem d_Group_settle_7 : decode (zb m_Group_settle) 7 = .ok (.if_icmp .ge 71, 3) := zdal_p dlA_Group_settle_28 (i := 5) rfl
theorem d_Group_settle_10 : decode (zb m_Group_settle) 10 = .ok (.aload_n 0, 1) := zdal_p dlA_Group_settle_28 (i := 6) rfl
theorem d_Group_settle_11 : decode (zb m_Group_settle) 11 = .ok (.getfield 20, 3) := zdal_p dlA_Group_settle_28 (i := 7) rfl
theorem d_Group_settle_14 : decode (zb m_Group_settle) 14 = .ok (.iload_n 1, 1) := zdal_p dlA_Group_settle_28 (i := 8) rfl
theorem d_Group_settle_15 : decode (zb m_Group_settle) 15 = .ok (.invokevirtual 54, 3) := zdal_p dlA_Group_settle_28 (i := 9) rfl
theorem d_Group_settle_18 : decode (zb m_Group_settle) 18 = .ok (.istore_n 2, 1) := zdal_p dlA_Group_settle_28 (i := 10) rfl
theorem d_Group_settle_19 : decode (zb m_Group_settle) 19 = .ok (.iload_n 1, 1) := zdal_p dlA_Group_settle_28 (i := 11) rfl
theorem d_Group_settle_20 : decode (zb m_Group_settle) 20 = .ok (.istore_n 3, 1) := zdal_p dlA_Group_settle_28 (i := 12) rfl
theorem d_Group_settle_21 : decode (zb m_Group_settle) 21 = .ok (.iload_n 3, 1) := zdal_p dlA_Group_settle_28 (i := 13) rfl
theorem d_Group_settle_22 : decode (zb m_Group_settle) 22 = .ok (.ifCond .le 41, 3) := zdal_p dlA_Group_settle_28 (i := 14) rfl
theorem d_Group_settle_25 : decode (zb m_Group_settle) 25 = .ok (.aload_n 0, 1) := zdal_p dlA_Group_settle_28 (i := 15) rfl
theorem d_Group_settle_26 : decode (zb m_Group_settle) 26 = .ok (.getfield 20, 3) := zdal_p dlA_Group_settle_28 (i := 16) rfl
theorem d_Group_settle_29 : decode (zb m_Group_settle) 29 = .ok (.iload_n 3, 1) := zdal_p dlA_Group_settle_28 (i := 17) rfl
theorem d_Group_settle_30 : decode (zb m_Group_settle) 30 = .ok (.iconst 1, 1) := zdal_p dlA_Group_settle_28 (i := 18) rfl
theorem d_Group_settle_31 : decode (zb m_Group_settle) 31 = .ok (.isub, 1) := zdal_p dlA_Group_settle_28 (i := 19) rfl
theorem d_Group_settle_32 : decode (zb m_Group_settle) 32 = .ok (.invokevirtual 54, 3) := zdal_p dlA_Group_settle_28 (i := 20) rfl
theorem d_Group_settle_35 : decode (zb m_Group_settle) 35 = .ok (.iload_n 2, 1) := zdal_p dlA_Group_settle_28 (i := 21) rfl
theorem d_Group_settle_36 : decode (zb m_Group_settle) 36 = .ok (.if_icmp .le 27, 3) := zdal_p dlA_Group_settle_28 (i := 22) rfl
theorem d_Group_settle_39 : decode (zb m_Group_settle) 39 = .ok (.aload_n 0, 1) := zdal_p dlA_Group_settle_28 (i := 23) rfl
theorem dlA_Group_settle_29 : zdal (zb m_Group_settle) [(40, (.getfield 20, 3)), (43, (.iload_n 3, 1)), (44, (.aload_n 0, 1)), (45, (.getfield 20, 3)), (48, (.iload_n 3, 1)), (49, (.iconst 1, 1)), (50, (.isub, 1)), (51, (.invokevirtual 54, 3)), (54, (.invokevirtual 46, 3)), (57, (.iinc 3 (-1), 3)), (60, (.goto (-39), 3)), (63, (.aload_n 0, 1)), (64, (.getfield 20, 3)), (67, (.iload_n 3, 1)), (68, (.iload_n 2, 1)), (69, (.invokevirtual 46, 3)), (72, (.iinc 1 1, 3)), (75, (.goto (-73), 3)), (78, (.iconst 0, 1)), (79, (.istore_n 1, 1)), (80, (.iload_n 1, 1)), (81, (.aload_n 0, 1)), (82, (.getfield 39, 3)), (85, (.if_icmp .ge 77, 3))] = true := zDs 40 (by decide +kernel)
theorem d_Group_settle_40 : decode (zb m_Group_settle) 40 = .ok (.getfield 20, 3) := zdal_p dlA_Group_settle_29 (i := 0) rfl
theorem d_Group_settle_43 : decode (zb m_Group_settle) 43 = .ok (.iload_n 3, 1) := zdal_p dlA_Group_settle_29 (i := 1) rfl
theorem d_Group_settle_44 : decode (zb m_Group_settle) 44 = .ok (.aload_n 0, 1) := zdal_p dlA_Group_settle_29 (i := 2) rfl
theorem d_Group_settle_45 : decode (zb m_Group_settle) 45 = .ok (.getfield 20, 3) := zdal_p dlA_Group_settle_29 (i := 3) rfl
theorem d_Group_settle_48 : decode (zb m_Group_settle) 48 = .ok (.iload_n 3, 1) := zdal_p dlA_Group_settle_29 (i := 4) rfl
theorem d_Group_settle_49 : decode (zb m_Group_settle) 49 = .ok (.iconst 1, 1) := zdal_p dlA_Group_settle_29 (i := 5) rfl
theorem d_Group_settle_50 : decode (zb m_Group_settle) 50 = .ok (.isub, 1) := zdal_p dlA_Group_settle_29 (i := 6) rfl
theorem d_Group_settle_51 : decode (zb m_Group_settle) 51 = .ok (.invokevirtual 54, 3) := zdal_p dlA_Group_settle_29 (i := 7) rfl
theorem d_Group_settle_54 : decode (zb m_Group_settle) 54 = .ok (.invokevirtual 46, 3) := zdal_p dlA_Group_settle_29 (i := 8) rfl
theorem d_Group_settle_57 : decode (zb m_Group_settle) 57 = .ok (.iinc 3 (-1), 3) := zdal_p dlA_Group_settle_29 (i := 9) rfl
theorem d_Group_settle_60 : decode (zb m_Group_settle) 60 = .ok (.goto (-39), 3) := zdal_p dlA_Group_settle_29 (i := 10) rfl
theorem d_Group_settle_63 : decode (zb m_Group_settle) 63 = .ok (.aload_n 0, 1) := zdal_p dlA_Group_settle_29 (i := 11) rfl
theorem d_Group_settle_64 : decode (zb m_Group_settle) 64 = .ok (.getfield 20, 3) := zdal_p dlA_Group_settle_29 (i := 12) rfl
theorem d_Group_settle_67 : decode (zb m_Group_settle) 67 = .ok (.iload_n 3, 1) := zdal_p dlA_Group_settle_29 (i := 13) rfl
theorem d_Group_settle_68 : decode (zb m_Group_settle) 68 = .ok (.iload_n 2, 1) := zdal_p dlA_Group_settle_29 (i := 14) rfl
theorem d_Group_settle_69 : decode (zb m_Group_settle) 69 = .ok (.invokevirtual 46, 3) := zdal_p dlA_Group_settle_29 (i := 15) rfl
theorem d_Group_settle_72 : decode (zb m_Group_settle) 72 = .ok (.iinc 1 1, 3) := zdal_p dlA_Group_settle_29 (i := 16) rfl
theorem d_Group_settle_75 : decode (zb m_Group_settle) 75 = .ok (.goto (-73), 3) := zdal_p dlA_Group_settle_29 (i := 17) rfl
theorem d_Group_settle_78 : decode (zb m_Group_settle) 78 = .ok (.iconst 0, 1) := zdal_p dlA_Group_settle_29 (i := 18) rfl
theorem d_Group_settle_79 : decode (zb m_Group_settle) 79 = .ok (.istore_n 1, 1) := zdal_p dlA_Group_settle_29 (i := 19) rfl
theorem d_Group_settle_80 : decode (zb m_Group_settle) 80 = .ok (.iload_n 1, 1) := zdal_p dlA_Group_settle_29 (i := 20) rfl
theorem d_Group_settle_81 : decode (zb m_Group_settle) 81 = .ok (.aload_n 0, 1) := zdal_p dlA_Group_settle_29 (i := 21) rfl
theorem d_Group_settle_82 : decode (zb m_Group_settle) 82 = .ok (.getfield 39, 3) := zdal_p dlA_Group_settle_29 (i := 22) rfl
theorem d_Group_settle_85 : decode (zb m_Group_settle) 85 = .ok (.if_icmp .ge 77, 3) := zdal_p dlA_Group_settle_29 (i := 23) rfl
theorem dlA_Group_settle_30 : zdal (zb m_Group_settle) [(88, (.iconst 0, 1)), (89, (.istore_n 2, 1)), (90, (.iload_n 2, 1)), (91, (.aload_n 0, 1)), (92, (.getfield 39, 3)), (95, (.if_icmp .ge 61, 3)), (98, (.aload_n 0, 1)), (99, (.aload_n 0, 1)), (100, (.aload_n 0, 1)), (101, (.getfield 20, 3)), (104, (.iload_n 1, 1)), (105, (.invokevirtual 54, 3)), (108, (.aload_n 0, 1)), (109, (.getfield 20, 3)), (112, (.iload_n 2, 1)), (113, (.invokevirtual 54, 3)), (116, (.invokevirtual 58, 3)), (119, (.invokevirtual 61, 3)), (122, (.istore_n 3, 1)), (123, (.aload_n 0, 1)), (124, (.getfield 23, 3)), (127, (.iload_n 1, 1)), (128, (.bipush 24, 2)), (130, (.imul, 1))] = true := zDs 88 (by decide +kernel)
theorem d_Group_settle_88 : decode (zb m_Group_settle) 88 = .ok (.iconst 0, 1) := zdal_p dlA_Group_settle_30 (i := 0) rfl
theorem d_Group_settle_89 : decode (zb m_Group_settle) 89 = .ok (.istore_n 2, 1) := zdal_p dlA_Group_settle_30 (i := 1) rfl
theorem d_Group_settle_90 : decode (zb m_Group_settle) 90 = .ok (.iload_n 2, 1) := zdal_p dlA_Group_settle_30 (i := 2) rfl
theorem d_Group_settle_91 : decode (zb m_Group_settle) 91 = .ok (.aload_n 0, 1) := zdal_p dlA_Group_settle_30 (i := 3) rfl
theorem d_Group_settle_92 : decode (zb m_Group_settle) 92 = .ok (.getfield 39, 3) := zdal_p dlA_Group_settle_30 (i := 4) rfl
theorem d_Group_settle_95 : decode (zb m_Group_settle) 95 = .ok (.if_icmp .ge 61, 3) := zdal_p dlA_Group_settle_30 (i := 5) rfl
theorem d_Group_settle_98 : decode (zb m_Group_settle) 98 = .ok (.aload_n 0, 1) := zdal_p dlA_Group_settle_30 (i := 6) rfl
theorem d_Group_settle_99 : decode (zb m_Group_settle) 99 = .ok (.aload_n 0, 1) := zdal_p dlA_Group_settle_30 (i := 7) rfl
theorem d_Group_settle_100 : decode (zb m_Group_settle) 100 = .ok (.aload_n 0, 1) := zdal_p dlA_Group_settle_30 (i := 8) rfl
theorem d_Group_settle_101 : decode (zb m_Group_settle) 101 = .ok (.getfield 20, 3) := zdal_p dlA_Group_settle_30 (i := 9) rfl
theorem d_Group_settle_104 : decode (zb m_Group_settle) 104 = .ok (.iload_n 1, 1) := zdal_p dlA_Group_settle_30 (i := 10) rfl
theorem d_Group_settle_105 : decode (zb m_Group_settle) 105 = .ok (.invokevirtual 54, 3) := zdal_p dlA_Group_settle_30 (i := 11) rfl
theorem d_Group_settle_108 : decode (zb m_Group_settle) 108 = .ok (.aload_n 0, 1) := zdal_p dlA_Group_settle_30 (i := 12) rfl
theorem d_Group_settle_109 : decode (zb m_Group_settle) 109 = .ok (.getfield 20, 3) := zdal_p dlA_Group_settle_30 (i := 13) rfl
theorem d_Group_settle_112 : decode (zb m_Group_settle) 112 = .ok (.iload_n 2, 1) := zdal_p dlA_Group_settle_30 (i := 14) rfl
theorem d_Group_settle_113 : decode (zb m_Group_settle) 113 = .ok (.invokevirtual 54, 3) := zdal_p dlA_Group_settle_30 (i := 15) rfl
theorem d_Group_settle_116 : decode (zb m_Group_settle) 116 = .ok (.invokevirtual 58, 3) := zdal_p dlA_Group_settle_30 (i := 16) rfl
theorem d_Group_settle_119 : decode (zb m_Group_settle) 119 = .ok (.invokevirtual 61, 3) := zdal_p dlA_Group_settle_30 (i := 17) rfl
theorem d_Group_settle_122 : decode (zb m_Group_settle) 122 = .ok (.istore_n 3, 1) := zdal_p dlA_Group_settle_30 (i := 18) rfl
theorem d_Group_settle_123 : decode (zb m_Group_settle) 123 = .ok (.aload_n 0, 1) := zdal_p dlA_Group_settle_30 (i := 19) rfl
theorem d_Group_settle_124 : decode (zb m_Group_settle) 124 = .ok (.getfield 23, 3) := zdal_p dlA_Group_settle_30 (i := 20) rfl
theorem d_Group_settle_127 : decode (zb m_Group_settle) 127 = .ok (.iload_n 1, 1) := zdal_p dlA_Group_settle_30 (i := 21) rfl
theorem d_Group_settle_128 : decode (zb m_Group_settle) 128 = .ok (.bipush 24, 2) := zdal_p dlA_Group_settle_30 (i := 22) rfl
theorem d_Group_settle_130 : decode (zb m_Group_settle) 130 = .ok (.imul, 1) := zdal_p dlA_Group_settle_30 (i := 23) rfl
theorem dlA_Group_settle_31 : zdal (zb m_Group_settle) [(131, (.iload_n 2, 1)), (132, (.iadd, 1)), (133, (.iload_n 3, 1)), (134, (.invokevirtual 46, 3)), (137, (.iload_n 3, 1)), (138, (.ifCond .ne 12, 3)), (141, (.aload_n 0, 1)), (142, (.getfield 26, 3)), (145, (.iload_n 1, 1)), (146, (.iload_n 2, 1)), (147, (.invokevirtual 46, 3)), (150, (.iinc 2 1, 3)), (153, (.goto (-63), 3)), (156, (.iinc 1 1, 3)), (159, (.goto (-79), 3)), (162, (.return_, 1))] = true := zDs 131 (by decide +kernel)
theorem d_Group_settle_131 : decode (zb m_Group_settle) 131 = .ok (.iload_n 2, 1) := zdal_p dlA_Group_settle_31 (i := 0) rfl
theorem d_Group_settle_132 : decode (zb m_Group_settle) 132 = .ok (.iadd, 1) := zdal_p dlA_Group_settle_31 (i := 1) rfl
theorem d_Group_settle_133 : decode (zb m_Group_settle) 133 = .ok (.iload_n 3, 1) := zdal_p dlA_Group_settle_31 (i := 2) rfl
theorem d_Group_settle_134 : decode (zb m_Group_settle) 134 = .ok (.invokevirtual 46, 3) := zdal_p dlA_Group_settle_31 (i := 3) rfl
theorem d_Group_settle_137 : decode (zb m_Group_settle) 137 = .ok (.iload_n 3, 1) := zdal_p dlA_Group_settle_31 (i := 4) rfl
theorem d_Group_settle_138 : decode (zb m_Group_settle) 138 = .ok (.ifCond .ne 12, 3) := zdal_p dlA_Group_settle_31 (i := 5) rfl
theorem d_Group_settle_141 : decode (zb m_Group_settle) 141 = .ok (.aload_n 0, 1) := zdal_p dlA_Group_settle_31 (i := 6) rfl
theorem d_Group_settle_142 : decode (zb m_Group_settle) 142 = .ok (.getfield 26, 3) := zdal_p dlA_Group_settle_31 (i := 7) rfl
theorem d_Group_settle_145 : decode (zb m_Group_settle) 145 = .ok (.iload_n 1, 1) := zdal_p dlA_Group_settle_31 (i := 8) rfl
theorem d_Group_settle_146 : decode (zb m_Group_settle) 146 = .ok (.iload_n 2, 1) := zdal_p dlA_Group_settle_31 (i := 9) rfl
theorem d_Group_settle_147 : decode (zb m_Group_settle) 147 = .ok (.invokevirtual 46, 3) := zdal_p dlA_Group_settle_31 (i := 10) rfl
theorem d_Group_settle_150 : decode (zb m_Group_settle) 150 = .ok (.iinc 2 1, 3) := zdal_p dlA_Group_settle_31 (i := 11) rfl
theorem d_Group_settle_153 : decode (zb m_Group_settle) 153 = .ok (.goto (-63), 3) := zdal_p dlA_Group_settle_31 (i := 12) rfl
theorem d_Group_settle_156 : decode (zb m_Group_settle) 156 = .ok (.iinc 1 1, 3) := zdal_p dlA_Group_settle_31 (i := 13) rfl
theorem d_Group_settle_159 : decode (zb m_Group_settle) 159 = .ok (.goto (-79), 3) := zdal_p dlA_Group_settle_31 (i := 14) rfl
theorem d_Group_settle_162 : decode (zb m_Group_settle) 162 = .ok (.return_, 1) := zdal_p dlA_Group_settle_31 (i := 15) rfl
theorem dlA_Sorts_settle_32 : zdal (zb m_Sorts_settle) [(0, (.aload_n 0, 1)), (1, (.iconst 1, 1)), (2, (.putfield 36, 3)), (5, (.aload_n 0, 1)), (6, (.getfield 14, 3)), (9, (.iconst 0, 1)), (10, (.iconst 1, 1)), (11, (.invokevirtual 40, 3)), (14, (.iconst 0, 1)), (15, (.istore_n 1, 1)), (16, (.iload_n 1, 1)), (17, (.aload_n 0, 1)), (18, (.getfield 36, 3)), (21, (.if_icmp .ge 72, 3)), (24, (.iload_n 1, 1)), (25, (.bipush 35, 2)), (27, (.if_icmp .ge 66, 3)), (30, (.iconst 0, 1)), (31, (.istore_n 2, 1)), (32, (.iload_n 2, 1)), (33, (.aload_n 0, 1)), (34, (.getfield 32, 3)), (37, (.getfield 44, 3)), (40, (.if_icmp .ge 47, 3))] = true := zDs 0 (by decide +kernel)
theorem d_Sorts_settle_0 : decode (zb m_Sorts_settle) 0 = .ok (.aload_n 0, 1) := zdal_p dlA_Sorts_settle_32 (i := 0) rfl
theorem d_Sorts_settle_1 : decode (zb m_Sorts_settle) 1 = .ok (.iconst 1, 1) := zdal_p dlA_Sorts_settle_32 (i := 1) rfl
theorem d_Sorts_settle_2 : decode (zb m_Sorts_settle) 2 = .ok (.putfield 36, 3) := zdal_p dlA_Sorts_settle_32 (i := 2) rfl
theorem d_Sorts_settle_5 : decode (zb m_Sorts_settle) 5 = .ok (.aload_n 0, 1) := zdal_p dlA_Sorts_settle_32 (i := 3) rfl
theorem d_Sorts_settle_6 : decode (zb m_Sorts_settle) 6 = .ok (.getfield 14, 3) := zdal_p dlA_Sorts_settle_32 (i := 4) rfl
theorem d_Sorts_settle_9 : decode (zb m_Sorts_settle) 9 = .ok (.iconst 0, 1) := zdal_p dlA_Sorts_settle_32 (i := 5) rfl
theorem d_Sorts_settle_10 : decode (zb m_Sorts_settle) 10 = .ok (.iconst 1, 1) := zdal_p dlA_Sorts_settle_32 (i := 6) rfl
theorem d_Sorts_settle_11 : decode (zb m_Sorts_settle) 11 = .ok (.invokevirtual 40, 3) := zdal_p dlA_Sorts_settle_32 (i := 7) rfl
theorem d_Sorts_settle_14 : decode (zb m_Sorts_settle) 14 = .ok (.iconst 0, 1) := zdal_p dlA_Sorts_settle_32 (i := 8) rfl
theorem d_Sorts_settle_15 : decode (zb m_Sorts_settle) 15 = .ok (.istore_n 1, 1) := zdal_p dlA_Sorts_settle_32 (i := 9) rfl
theorem d_Sorts_settle_16 : decode (zb m_Sorts_settle) 16 = .ok (.iload_n 1, 1) := zdal_p dlA_Sorts_settle_32 (i := 10) rfl
theorem d_Sorts_settle_17 : decode (zb m_Sorts_settle) 17 = .ok (.aload_n 0, 1) := zdal_p dlA_Sorts_settle_32 (i := 11) rfl
theorem d_Sorts_settle_18 : decode (zb m_Sorts_settle) 18 = .ok (.getfield 36, 3) := zdal_p dlA_Sorts_settle_32 (i := 12) rfl
theorem d_Sorts_settle_21 : decode (zb m_Sorts_settle) 21 = .ok (.if_icmp .ge 72, 3) := zdal_p dlA_Sorts_settle_32 (i := 13) rfl
theorem d_Sorts_settle_24 : decode (zb m_Sorts_settle) 24 = .ok (.iload_n 1, 1) := zdal_p dlA_Sorts_settle_32 (i := 14) rfl
theorem d_Sorts_settle_25 : decode (zb m_Sorts_settle) 25 = .ok (.bipush 35, 2) := zdal_p dlA_Sorts_settle_32 (i := 15) rfl
theorem d_Sorts_settle_27 : decode (zb m_Sorts_settle) 27 = .ok (.if_icmp .ge 66, 3) := zdal_p dlA_Sorts_settle_32 (i := 16) rfl
theorem d_Sorts_settle_30 : decode (zb m_Sorts_settle) 30 = .ok (.iconst 0, 1) := zdal_p dlA_Sorts_settle_32 (i := 17) rfl
theorem d_Sorts_settle_31 : decode (zb m_Sorts_settle) 31 = .ok (.istore_n 2, 1) := zdal_p dlA_Sorts_settle_32 (i := 18) rfl
theorem d_Sorts_settle_32 : decode (zb m_Sorts_settle) 32 = .ok (.iload_n 2, 1) := zdal_p dlA_Sorts_settle_32 (i := 19) rfl
theorem d_Sorts_settle_33 : decode (zb m_Sorts_settle) 33 = .ok (.aload_n 0, 1) := zdal_p dlA_Sorts_settle_32 (i := 20) rfl
theorem d_Sorts_settle_34 : decode (zb m_Sorts_settle) 34 = .ok (.getfield 32, 3) := zdal_p dlA_Sorts_settle_32 (i := 21) rfl
theorem d_Sorts_settle_37 : decode (zb m_Sorts_settle) 37 = .ok (.getfield 44, 3) := zdal_p dlA_Sorts_settle_32 (i := 22) rfl
theorem d_Sorts_settle_40 : decode (zb m_Sorts_settle) 40 = .ok (.if_icmp .ge 47, 3) := zdal_p dlA_Sorts_settle_32 (i := 23) rfl
theorem dlA_Sorts_settle_33 : zdal (zb m_Sorts_settle) [(43, (.aload_n 0, 1)), (44, (.getfield 14, 3)), (47, (.iload_n 1, 1)), (48, (.invokevirtual 49, 3)), (51, (.iload_n 2, 1)), (52, (.invokestatic 53, 3)), (55, (.ifCond .ne 26, 3)), (58, (.aload_n 0, 1)), (59, (.aload_n 0, 1)), (60, (.getfield 32, 3)), (63, (.aload_n 0, 1)), (64, (.getfield 14, 3)), (67, (.iload_n 1, 1)), (68, (.invokevirtual 49, 3)), (71, (.iconst 1, 1)), (72, (.iload_n 2, 1)), (73, (.ishl, 1)), (74, (.ior, 1)), (75, (.invokevirtual 57, 3)), (78, (.invokevirtual 60, 3)), (81, (.iinc 2 1, 3)), (84, (.goto (-52), 3)), (87, (.iinc 1 1, 3)), (90, (.goto (-74), 3))] = true := zDs 43 (by decide +kernel)
theorem d_Sorts_settle_43 : decode (zb m_Sorts_settle) 43 = .ok (.aload_n 0, 1) := zdal_p dlA_Sorts_settle_33 (i := 0) rfl
theorem d_Sorts_settle_44 : decode (zb m_Sorts_settle) 44 = .ok (.getfield 14, 3) := zdal_p dlA_Sorts_settle_33 (i := 1) rfl
theorem d_Sorts_settle_47 : decode (zb m_Sorts_settle) 47 = .ok (.iload_n 1, 1) := zdal_p dlA_Sorts_settle_33 (i := 2) rfl
theorem d_Sorts_settle_48 : decode (zb m_Sorts_settle) 48 = .ok (.invokevirtual 49, 3) := zdal_p dlA_Sorts_settle_33 (i := 3) rfl
theorem d_Sorts_settle_51 : decode (zb m_Sorts_settle) 51 = .ok (.iload_n 2, 1) := zdal_p dlA_Sorts_settle_33 (i := 4) rfl
theorem d_Sorts_settle_52 : decode (zb m_Sorts_settle) 52 = .ok (.invokestatic 53, 3) := zdal_p dlA_Sorts_settle_33 (i := 5) rfl
theorem d_Sorts_settle_55 : decode (zb m_Sorts_settle) 55 = .ok (.ifCond .ne 26, 3) := zdal_p dlA_Sorts_settle_33 (i := 6) rfl
theorem d_Sorts_settle_58 : decode (zb m_Sorts_settle) 58 = .ok (.aload_n 0, 1) := zdal_p dlA_Sorts_settle_33 (i := 7) rfl
theorem d_Sorts_settle_59 : decode (zb m_Sorts_settle) 59 = .ok (.aload_n 0, 1) := zdal_p dlA_Sorts_settle_33 (i := 8) rfl
theorem d_Sorts_settle_60 : decode (zb m_Sorts_settle) 60 = .ok (.getfield 32, 3) := zdal_p dlA_Sorts_settle_33 (i := 9) rfl
theorem d_Sorts_settle_63 : decode (zb m_Sorts_settle) 63 = .ok (.aload_n 0, 1) := zdal_p dlA_Sorts_settle_33 (i := 10) rfl
theorem d_Sorts_settle_64 : decode (zb m_Sorts_settle) 64 = .ok (.getfield 14, 3) := zdal_p dlA_Sorts_settle_33 (i := 11) rfl
theorem d_Sorts_settle_67 : decode (zb m_Sorts_settle) 67 = .ok (.iload_n 1, 1) := zdal_p dlA_Sorts_settle_33 (i := 12) rfl
theorem d_Sorts_settle_68 : decode (zb m_Sorts_settle) 68 = .ok (.invokevirtual 49, 3) := zdal_p dlA_Sorts_settle_33 (i := 13) rfl
theorem d_Sorts_settle_71 : decode (zb m_Sorts_settle) 71 = .ok (.iconst 1, 1) := zdal_p dlA_Sorts_settle_33 (i := 14) rfl
theorem d_Sorts_settle_72 : decode (zb m_Sorts_settle) 72 = .ok (.iload_n 2, 1) := zdal_p dlA_Sorts_settle_33 (i := 15) rfl
theorem d_Sorts_settle_73 : decode (zb m_Sorts_settle) 73 = .ok (.ishl, 1) := zdal_p dlA_Sorts_settle_33 (i := 16) rfl
theorem d_Sorts_settle_74 : decode (zb m_Sorts_settle) 74 = .ok (.ior, 1) := zdal_p dlA_Sorts_settle_33 (i := 17) rfl
theorem d_Sorts_settle_75 : decode (zb m_Sorts_settle) 75 = .ok (.invokevirtual 57, 3) := zdal_p dlA_Sorts_settle_33 (i := 18) rfl
theorem d_Sorts_settle_78 : decode (zb m_Sorts_settle) 78 = .ok (.invokevirtual 60, 3) := zdal_p dlA_Sorts_settle_33 (i := 19) rfl
theorem d_Sorts_settle_81 : decode (zb m_Sorts_settle) 81 = .ok (.iinc 2 1, 3) := zdal_p dlA_Sorts_settle_33 (i := 20) rfl
theorem d_Sorts_settle_84 : decode (zb m_Sorts_settle) 84 = .ok (.goto (-52), 3) := zdal_p dlA_Sorts_settle_33 (i := 21) rfl
theorem d_Sorts_settle_87 : decode (zb m_Sorts_settle) 87 = .ok (.iinc 1 1, 3) := zdal_p dlA_Sorts_settle_33 (i := 22) rfl
theorem d_Sorts_settle_90 : decode (zb m_Sorts_settle) 90 = .ok (.goto (-74), 3) := zdal_p dlA_Sorts_settle_33 (i := 23) rfl
theorem dlA_Sorts_settle_34 : zdal (zb m_Sorts_settle) [(93, (.aload_n 0, 1)), (94, (.invokevirtual 63, 3)), (97, (.aload_n 0, 1)), (98, (.invokevirtual 66, 3)), (101, (.aload_n 0, 1)), (102, (.invokevirtual 69, 3)), (105, (.return_, 1))] = true := zDs 93 (by decide +kernel)
theorem d_Sorts_settle_93 : decode (zb m_Sorts_settle) 93 = .ok (.aload_n 0, 1) := zdal_p dlA_Sorts_settle_34 (i := 0) rfl
theorem d_Sorts_settle_94 : decode (zb m_Sorts_settle) 94 = .ok (.invokevirtual 63, 3) := zdal_p dlA_Sorts_settle_34 (i := 1) rfl
theorem d_Sorts_settle_97 : decode (zb m_Sorts_settle) 97 = .ok (.aload_n 0, 1) := zdal_p dlA_Sorts_settle_34 (i := 2) rfl
theorem d_Sorts_settle_98 : decode (zb m_Sorts_settle) 98 = .ok (.invokevirtual 66, 3) := zdal_p dlA_Sorts_settle_34 (i := 3) rfl
theorem d_Sorts_settle_101 : decode (zb m_Sorts_settle) 101 = .ok (.aload_n 0, 1) := zdal_p dlA_Sorts_settle_34 (i := 4) rfl
theorem d_Sorts_settle_102 : decode (zb m_Sorts_settle) 102 = .ok (.invokevirtual 69, 3) := zdal_p dlA_Sorts_settle_34 (i := 5) rfl
theorem d_Sorts_settle_105 : decode (zb m_Sorts_settle) 105 = .ok (.return_, 1) := zdal_p dlA_Sorts_settle_34 (i := 6) rfl
theorem dlA_T_isIn_35 : zdal (zb m_T_isIn) [(0, (.iload_n 0, 1)), (1, (.iload_n 1, 1)), (2, (.ishr, 1)), (3, (.iconst 1, 1)), (4, (.iand, 1)), (5, (.ifCond .eq 7, 3)), (8, (.iconst 1, 1)), (9, (.goto 4, 3)), (12, (.iconst 0, 1)), (13, (.ireturn, 1))] = true := zDs 0 (by decide +kernel)
theorem d_T_isIn_0 : decode (zb m_T_isIn) 0 = .ok (.iload_n 0, 1) := zdal_p dlA_T_isIn_35 (i := 0) rfl
theorem d_T_isIn_1 : decode (zb m_T_isIn) 1 = .ok (.iload_n 1, 1) := zdal_p dlA_T_isIn_35 (i := 1) rfl
theorem d_T_isIn_2 : decode (zb m_T_isIn) 2 = .ok (.ishr, 1) := zdal_p dlA_T_isIn_35 (i := 2) rfl
theorem d_T_isIn_3 : decode (zb m_T_isIn) 3 = .ok (.iconst 1, 1) := zdal_p dlA_T_isIn_35 (i := 3) rfl
theorem d_T_isIn_4 : decode (zb m_T_isIn) 4 = .ok (.iand, 1) := zdal_p dlA_T_isIn_35 (i := 4) rfl
theorem d_T_isIn_5 : decode (zb m_T_isIn) 5 = .ok (.ifCond .eq 7, 3) := zdal_p dlA_T_isIn_35 (i := 5) rfl
theorem d_T_isIn_8 : decode (zb m_T_isIn) 8 = .ok (.iconst 1, 1) := zdal_p dlA_T_isIn_35 (i := 6) rfl
theorem d_T_isIn_9 : decode (zb m_T_isIn) 9 = .ok (.goto 4, 3) := zdal_p dlA_T_isIn_35 (i := 7) rfl
theorem d_T_isIn_12 : decode (zb m_T_isIn) 12 = .ok (.iconst 0, 1) := zdal_p dlA_T_isIn_35 (i := 8) rfl
theorem d_T_isIn_13 : decode (zb m_T_isIn) 13 = .ok (.ireturn, 1) := zdal_p dlA_T_isIn_35 (i := 9) rfl
theorem dlA_Group_spanOf_36 : zdal (zb m_Group_spanOf) [(0, (.iconst 1, 1)), (1, (.istore_n 2, 1)), (2, (.iconst 1, 1)), (3, (.istore_n 3, 1)), (4, (.aload_n 0, 1)), (5, (.getfield 29, 3)), (8, (.iconst 0, 1)), (9, (.iconst 0, 1)), (10, (.invokevirtual 46, 3)), (13, (.iconst 0, 1)), (14, (.istore 4, 2)), (16, (.iload 4, 2)), (18, (.iload_n 3, 1)), (19, (.if_icmp .ge 93, 3)), (22, (.iload 4, 2)), (24, (.bipush 24, 2)), (26, (.if_icmp .ge 86, 3)), (29, (.iconst 0, 1)), (30, (.istore 5, 2)), (32, (.iload 5, 2)), (34, (.aload_n 0, 1)), (35, (.getfield 39, 3)), (38, (.if_icmp .ge 68, 3)), (41, (.iload_n 1, 1))] = true := zDs 0 (by decide +kernel)
theorem d_Group_spanOf_0 : decode (zb m_Group_spanOf) 0 = .ok (.iconst 1, 1) := zdal_p dlA_Group_spanOf_36 (i := 0) rfl
theorem d_Group_spanOf_1 : decode (zb m_Group_spanOf) 1 = .ok (.istore_n 2, 1) := zdal_p dlA_Group_spanOf_36 (i := 1) rfl
theorem d_Group_spanOf_2 : decode (zb m_Group_spanOf) 2 = .ok (.iconst 1, 1) := zdal_p dlA_Group_spanOf_36 (i := 2) rfl
theorem d_Group_spanOf_3 : decode (zb m_Group_spanOf) 3 = .ok (.istore_n 3, 1) := zdal_p dlA_Group_spanOf_36 (i := 3) rfl
theorem d_Group_spanOf_4 : decode (zb m_Group_spanOf) 4 = .ok (.aload_n 0, 1) := zdal_p dlA_Group_spanOf_36 (i := 4) rfl
theorem d_Group_spanOf_5 : decode (zb m_Group_spanOf) 5 = .ok (.getfield 29, 3) := zdal_p dlA_Group_spanOf_36 (i := 5) rfl
theorem d_Group_spanOf_8 : decode (zb m_Group_spanOf) 8 = .ok (.iconst 0, 1) := zdal_p dlA_Group_spanOf_36 (i := 6) rfl
theorem d_Group_spanOf_9 : decode (zb m_Group_spanOf) 9 = .ok (.iconst 0, 1) := zdal_p dlA_Group_spanOf_36 (i := 7) rfl
theorem d_Group_spanOf_10 : decode (zb m_Group_spanOf) 10 = .ok (.invokevirtual 46, 3) := zdal_p dlA_Group_spanOf_36 (i := 8) rfl
theorem d_Group_spanOf_13 : decode (zb m_Group_spanOf) 13 = .ok (.iconst 0, 1) := zdal_p dlA_Group_spanOf_36 (i := 9) rfl
theorem d_Group_spanOf_14 : decode (zb m_Group_spanOf) 14 = .ok (.istore 4, 2) := zdal_p dlA_Group_spanOf_36 (i := 10) rfl
theorem d_Group_spanOf_16 : decode (zb m_Group_spanOf) 16 = .ok (.iload 4, 2) := zdal_p dlA_Group_spanOf_36 (i := 11) rfl
theorem d_Group_spanOf_18 : decode (zb m_Group_spanOf) 18 = .ok (.iload_n 3, 1) := zdal_p dlA_Group_spanOf_36 (i := 12) rfl
theorem d_Group_spanOf_19 : decode (zb m_Group_spanOf) 19 = .ok (.if_icmp .ge 93, 3) := zdal_p dlA_Group_spanOf_36 (i := 13) rfl
theorem d_Group_spanOf_22 : decode (zb m_Group_spanOf) 22 = .ok (.iload 4, 2) := zdal_p dlA_Group_spanOf_36 (i := 14) rfl
theorem d_Group_spanOf_24 : decode (zb m_Group_spanOf) 24 = .ok (.bipush 24, 2) := zdal_p dlA_Group_spanOf_36 (i := 15) rfl
theorem d_Group_spanOf_26 : decode (zb m_Group_spanOf) 26 = .ok (.if_icmp .ge 86, 3) := zdal_p dlA_Group_spanOf_36 (i := 16) rfl
theorem d_Group_spanOf_29 : decode (zb m_Group_spanOf) 29 = .ok (.iconst 0, 1) := zdal_p dlA_Group_spanOf_36 (i := 17) rfl
theorem d_Group_spanOf_30 : decode (zb m_Group_spanOf) 30 = .ok (.istore 5, 2) := zdal_p dlA_Group_spanOf_36 (i := 18) rfl
theorem d_Group_spanOf_32 : decode (zb m_Group_spanOf) 32 = .ok (.iload 5, 2) := zdal_p dlA_Group_spanOf_36 (i := 19) rfl
theorem d_Group_spanOf_34 : decode (zb m_Group_spanOf) 34 = .ok (.aload_n 0, 1) := zdal_p dlA_Group_spanOf_36 (i := 20) rfl
theorem d_Group_spanOf_35 : decode (zb m_Group_spanOf) 35 = .ok (.getfield 39, 3) := zdal_p dlA_Group_spanOf_36 (i := 21) rfl
theorem d_Group_spanOf_38 : decode (zb m_Group_spanOf) 38 = .ok (.if_icmp .ge 68, 3) := zdal_p dlA_Group_spanOf_36 (i := 22) rfl
theorem d_Group_spanOf_41 : decode (zb m_Group_spanOf) 41 = .ok (.iload_n 1, 1) := zdal_p dlA_Group_spanOf_36 (i := 23) rfl
theorem dlA_Group_spanOf_37 : zdal (zb m_Group_spanOf) [(42, (.iload 5, 2)), (44, (.invokestatic 73, 3)), (47, (.ifCond .eq 21, 3)), (50, (.aload_n 0, 1)), (51, (.aload_n 0, 1)), (52, (.getfield 29, 3)), (55, (.iload 4, 2)), (57, (.invokevirtual 54, 3)), (60, (.iload 5, 2)), (62, (.invokevirtual 67, 3)), (65, (.goto 4, 3)), (68, (.iconst 0, 1)), (69, (.istore 6, 2)), (71, (.iload_n 2, 1)), (72, (.iload 6, 2)), (74, (.invokestatic 73, 3)), (77, (.ifCond .ne 23, 3)), (80, (.iload_n 2, 1)), (81, (.iconst 1, 1)), (82, (.iload 6, 2)), (84, (.ishl, 1)), (85, (.ior, 1)), (86, (.istore_n 2, 1)), (87, (.aload_n 0, 1))] = true := zDs 42 (by decide +kernel)
theorem d_Group_spanOf_42 : decode (zb m_Group_spanOf) 42 = .ok (.iload 5, 2) := zdal_p dlA_Group_spanOf_37 (i := 0) rfl
theorem d_Group_spanOf_44 : decode (zb m_Group_spanOf) 44 = .ok (.invokestatic 73, 3) := zdal_p dlA_Group_spanOf_37 (i := 1) rfl
theorem d_Group_spanOf_47 : decode (zb m_Group_spanOf) 47 = .ok (.ifCond .eq 21, 3) := zdal_p dlA_Group_spanOf_37 (i := 2) rfl
theorem d_Group_spanOf_50 : decode (zb m_Group_spanOf) 50 = .ok (.aload_n 0, 1) := zdal_p dlA_Group_spanOf_37 (i := 3) rfl
theorem d_Group_spanOf_51 : decode (zb m_Group_spanOf) 51 = .ok (.aload_n 0, 1) := zdal_p dlA_Group_spanOf_37 (i := 4) rfl
theorem d_Group_spanOf_52 : decode (zb m_Group_spanOf) 52 = .ok (.getfield 29, 3) := zdal_p dlA_Group_spanOf_37 (i := 5) rfl
theorem d_Group_spanOf_55 : decode (zb m_Group_spanOf) 55 = .ok (.iload 4, 2) := zdal_p dlA_Group_spanOf_37 (i := 6) rfl
theorem d_Group_spanOf_57 : decode (zb m_Group_spanOf) 57 = .ok (.invokevirtual 54, 3) := zdal_p dlA_Group_spanOf_37 (i := 7) rfl
theorem d_Group_spanOf_60 : decode (zb m_Group_spanOf) 60 = .ok (.iload 5, 2) := zdal_p dlA_Group_spanOf_37 (i := 8) rfl
theorem d_Group_spanOf_62 : decode (zb m_Group_spanOf) 62 = .ok (.invokevirtual 67, 3) := zdal_p dlA_Group_spanOf_37 (i := 9) rfl
theorem d_Group_spanOf_65 : decode (zb m_Group_spanOf) 65 = .ok (.goto 4, 3) := zdal_p dlA_Group_spanOf_37 (i := 10) rfl
theorem d_Group_spanOf_68 : decode (zb m_Group_spanOf) 68 = .ok (.iconst 0, 1) := zdal_p dlA_Group_spanOf_37 (i := 11) rfl
theorem d_Group_spanOf_69 : decode (zb m_Group_spanOf) 69 = .ok (.istore 6, 2) := zdal_p dlA_Group_spanOf_37 (i := 12) rfl
theorem d_Group_spanOf_71 : decode (zb m_Group_spanOf) 71 = .ok (.iload_n 2, 1) := zdal_p dlA_Group_spanOf_37 (i := 13) rfl
theorem d_Group_spanOf_72 : decode (zb m_Group_spanOf) 72 = .ok (.iload 6, 2) := zdal_p dlA_Group_spanOf_37 (i := 14) rfl
theorem d_Group_spanOf_74 : decode (zb m_Group_spanOf) 74 = .ok (.invokestatic 73, 3) := zdal_p dlA_Group_spanOf_37 (i := 15) rfl
theorem d_Group_spanOf_77 : decode (zb m_Group_spanOf) 77 = .ok (.ifCond .ne 23, 3) := zdal_p dlA_Group_spanOf_37 (i := 16) rfl
theorem d_Group_spanOf_80 : decode (zb m_Group_spanOf) 80 = .ok (.iload_n 2, 1) := zdal_p dlA_Group_spanOf_37 (i := 17) rfl
theorem d_Group_spanOf_81 : decode (zb m_Group_spanOf) 81 = .ok (.iconst 1, 1) := zdal_p dlA_Group_spanOf_37 (i := 18) rfl
theorem d_Group_spanOf_82 : decode (zb m_Group_spanOf) 82 = .ok (.iload 6, 2) := zdal_p dlA_Group_spanOf_37 (i := 19) rfl
theorem d_Group_spanOf_84 : decode (zb m_Group_spanOf) 84 = .ok (.ishl, 1) := zdal_p dlA_Group_spanOf_37 (i := 20) rfl
theorem d_Group_spanOf_85 : decode (zb m_Group_spanOf) 85 = .ok (.ior, 1) := zdal_p dlA_Group_spanOf_37 (i := 21) rfl
theorem d_Group_spanOf_86 : decode (zb m_Group_spanOf) 86 = .ok (.istore_n 2, 1) := zdal_p dlA_Group_spanOf_37 (i := 22) rfl
theorem d_Group_spanOf_87 : decode (zb m_Group_spanOf) 87 = .ok (.aload_n 0, 1) := zdal_p dlA_Group_spanOf_37 (i := 23) rfl
theorem dlA_Group_spanOf_38 : zdal (zb m_Group_spanOf) [(88, (.getfield 29, 3)), (91, (.iload_n 3, 1)), (92, (.iload 6, 2)), (94, (.invokevirtual 46, 3)), (97, (.iinc 3 1, 3)), (100, (.iinc 5 1, 3)), (103, (.goto (-71), 3)), (106, (.iinc 4 1, 3)), (109, (.goto (-93), 3)), (112, (.iload_n 2, 1)), (113, (.ireturn, 1))] = true := zDs 88 (by decide +kernel)
theorem d_Group_spanOf_88 : decode (zb m_Group_spanOf) 88 = .ok (.getfield 29, 3) := zdal_p dlA_Group_spanOf_38 (i := 0) rfl
theorem d_Group_spanOf_91 : decode (zb m_Group_spanOf) 91 = .ok (.iload_n 3, 1) := zdal_p dlA_Group_spanOf_38 (i := 1) rfl
theorem d_Group_spanOf_92 : decode (zb m_Group_spanOf) 92 = .ok (.iload 6, 2) := zdal_p dlA_Group_spanOf_38 (i := 2) rfl
theorem d_Group_spanOf_94 : decode (zb m_Group_spanOf) 94 = .ok (.invokevirtual 46, 3) := zdal_p dlA_Group_spanOf_38 (i := 3) rfl
theorem d_Group_spanOf_97 : decode (zb m_Group_spanOf) 97 = .ok (.iinc 3 1, 3) := zdal_p dlA_Group_spanOf_38 (i := 4) rfl
theorem d_Group_spanOf_100 : decode (zb m_Group_spanOf) 100 = .ok (.iinc 5 1, 3) := zdal_p dlA_Group_spanOf_38 (i := 5) rfl
theorem d_Group_spanOf_103 : decode (zb m_Group_spanOf) 103 = .ok (.goto (-71), 3) := zdal_p dlA_Group_spanOf_38 (i := 6) rfl
theorem d_Group_spanOf_106 : decode (zb m_Group_spanOf) 106 = .ok (.iinc 4 1, 3) := zdal_p dlA_Group_spanOf_38 (i := 7) rfl
theorem d_Group_spanOf_109 : decode (zb m_Group_spanOf) 109 = .ok (.goto (-93), 3) := zdal_p dlA_Group_spanOf_38 (i := 8) rfl
theorem d_Group_spanOf_112 : decode (zb m_Group_spanOf) 112 = .ok (.iload_n 2, 1) := zdal_p dlA_Group_spanOf_38 (i := 9) rfl
theorem d_Group_spanOf_113 : decode (zb m_Group_spanOf) 113 = .ok (.ireturn, 1) := zdal_p dlA_Group_spanOf_38 (i := 10) rfl
theorem dlA_Group_both_39 : zdal (zb m_Group_both) [(0, (.aload_n 0, 1)), (1, (.getfield 23, 3)), (4, (.iload_n 1, 1)), (5, (.bipush 24, 2)), (7, (.imul, 1)), (8, (.iload_n 2, 1)), (9, (.iadd, 1)), (10, (.invokevirtual 54, 3)), (13, (.ireturn, 1))] = true := zDs 0 (by decide +kernel)
theorem d_Group_both_0 : decode (zb m_Group_both) 0 = .ok (.aload_n 0, 1) := zdal_p dlA_Group_both_39 (i := 0) rfl
theorem d_Group_both_1 : decode (zb m_Group_both) 1 = .ok (.getfield 23, 3) := zdal_p dlA_Group_both_39 (i := 1) rfl
theorem d_Group_both_4 : decode (zb m_Group_both) 4 = .ok (.iload_n 1, 1) := zdal_p dlA_Group_both_39 (i := 2) rfl
theorem d_Group_both_5 : decode (zb m_Group_both) 5 = .ok (.bipush 24, 2) := zdal_p dlA_Group_both_39 (i := 3) rfl
theorem d_Group_both_7 : decode (zb m_Group_both) 7 = .ok (.imul, 1) := zdal_p dlA_Group_both_39 (i := 4) rfl
theorem d_Group_both_8 : decode (zb m_Group_both) 8 = .ok (.iload_n 2, 1) := zdal_p dlA_Group_both_39 (i := 5) rfl
theorem d_Group_both_9 : decode (zb m_Group_both) 9 = .ok (.iadd, 1) := zdal_p dlA_Group_both_39 (i := 6) rfl
theorem d_Group_both_10 : decode (zb m_Group_both) 10 = .ok (.invokevirtual 54, 3) := zdal_p dlA_Group_both_39 (i := 7) rfl
theorem d_Group_both_13 : decode (zb m_Group_both) 13 = .ok (.ireturn, 1) := zdal_p dlA_Group_both_39 (i := 8) rfl
theorem dlA_Sorts_addSubgroup_40 : zdal (zb m_Sorts_addSubgroup) [(0, (.aload_n 0, 1)), (1, (.iload_n 1, 1)), (2, (.invokevirtual 72, 3)), (5, (.iconst (-1), 1)), (6, (.if_icmp .ne 34, 3)), (9, (.aload_n 0, 1)), (10, (.getfield 36, 3)), (13, (.bipush 35, 2)), (15, (.if_icmp .ge 25, 3)), (18, (.aload_n 0, 1)), (19, (.getfield 14, 3)), (22, (.aload_n 0, 1)), (23, (.getfield 36, 3)), (26, (.iload_n 1, 1)), (27, (.invokevirtual 40, 3)), (30, (.aload_n 0, 1)), (31, (.dup, 1)), (32, (.getfield 36, 3)), (35, (.iconst 1, 1)), (36, (.iadd, 1)), (37, (.putfield 36, 3)), (40, (.return_, 1))] = true := zDs 0 (by decide +kernel)
theorem d_Sorts_addSubgroup_0 : decode (zb m_Sorts_addSubgroup) 0 = .ok (.aload_n 0, 1) := zdal_p dlA_Sorts_addSubgroup_40 (i := 0) rfl
theorem d_Sorts_addSubgroup_1 : decode (zb m_Sorts_addSubgroup) 1 = .ok (.iload_n 1, 1) := zdal_p dlA_Sorts_addSubgroup_40 (i := 1) rfl
theorem d_Sorts_addSubgroup_2 : decode (zb m_Sorts_addSubgroup) 2 = .ok (.invokevirtual 72, 3) := zdal_p dlA_Sorts_addSubgroup_40 (i := 2) rfl
theorem d_Sorts_addSubgroup_5 : decode (zb m_Sorts_addSubgroup) 5 = .ok (.iconst (-1), 1) := zdal_p dlA_Sorts_addSubgroup_40 (i := 3) rfl
theorem d_Sorts_addSubgroup_6 : decode (zb m_Sorts_addSubgroup) 6 = .ok (.if_icmp .ne 34, 3) := zdal_p dlA_Sorts_addSubgroup_40 (i := 4) rfl
theorem d_Sorts_addSubgroup_9 : decode (zb m_Sorts_addSubgroup) 9 = .ok (.aload_n 0, 1) := zdal_p dlA_Sorts_addSubgroup_40 (i := 5) rfl
theorem d_Sorts_addSubgroup_10 : decode (zb m_Sorts_addSubgroup) 10 = .ok (.getfield 36, 3) := zdal_p dlA_Sorts_addSubgroup_40 (i := 6) rfl
theorem d_Sorts_addSubgroup_13 : decode (zb m_Sorts_addSubgroup) 13 = .ok (.bipush 35, 2) := zdal_p dlA_Sorts_addSubgroup_40 (i := 7) rfl
theorem d_Sorts_addSubgroup_15 : decode (zb m_Sorts_addSubgroup) 15 = .ok (.if_icmp .ge 25, 3) := zdal_p dlA_Sorts_addSubgroup_40 (i := 8) rfl
theorem d_Sorts_addSubgroup_18 : decode (zb m_Sorts_addSubgroup) 18 = .ok (.aload_n 0, 1) := zdal_p dlA_Sorts_addSubgroup_40 (i := 9) rfl
theorem d_Sorts_addSubgroup_19 : decode (zb m_Sorts_addSubgroup) 19 = .ok (.getfield 14, 3) := zdal_p dlA_Sorts_addSubgroup_40 (i := 10) rfl
theorem d_Sorts_addSubgroup_22 : decode (zb m_Sorts_addSubgroup) 22 = .ok (.aload_n 0, 1) := zdal_p dlA_Sorts_addSubgroup_40 (i := 11) rfl
theorem d_Sorts_addSubgroup_23 : decode (zb m_Sorts_addSubgroup) 23 = .ok (.getfield 36, 3) := zdal_p dlA_Sorts_addSubgroup_40 (i := 12) rfl
theorem d_Sorts_addSubgroup_26 : decode (zb m_Sorts_addSubgroup) 26 = .ok (.iload_n 1, 1) := zdal_p dlA_Sorts_addSubgroup_40 (i := 13) rfl
theorem d_Sorts_addSubgroup_27 : decode (zb m_Sorts_addSubgroup) 27 = .ok (.invokevirtual 40, 3) := zdal_p dlA_Sorts_addSubgroup_40 (i := 14) rfl
theorem d_Sorts_addSubgroup_30 : decode (zb m_Sorts_addSubgroup) 30 = .ok (.aload_n 0, 1) := zdal_p dlA_Sorts_addSubgroup_40 (i := 15) rfl
theorem d_Sorts_addSubgroup_31 : decode (zb m_Sorts_addSubgroup) 31 = .ok (.dup, 1) := zdal_p dlA_Sorts_addSubgroup_40 (i := 16) rfl
theorem d_Sorts_addSubgroup_32 : decode (zb m_Sorts_addSubgroup) 32 = .ok (.getfield 36, 3) := zdal_p dlA_Sorts_addSubgroup_40 (i := 17) rfl
theorem d_Sorts_addSubgroup_35 : decode (zb m_Sorts_addSubgroup) 35 = .ok (.iconst 1, 1) := zdal_p dlA_Sorts_addSubgroup_40 (i := 18) rfl
theorem d_Sorts_addSubgroup_36 : decode (zb m_Sorts_addSubgroup) 36 = .ok (.iadd, 1) := zdal_p dlA_Sorts_addSubgroup_40 (i := 19) rfl
theorem d_Sorts_addSubgroup_37 : decode (zb m_Sorts_addSubgroup) 37 = .ok (.putfield 36, 3) := zdal_p dlA_Sorts_addSubgroup_40 (i := 20) rfl
theorem d_Sorts_addSubgroup_40 : decode (zb m_Sorts_addSubgroup) 40 = .ok (.return_, 1) := zdal_p dlA_Sorts_addSubgroup_40 (i := 21) rfl
theorem dlA_Sorts_indexOf_41 : zdal (zb m_Sorts_indexOf) [(0, (.iconst 0, 1)), (1, (.istore_n 2, 1)), (2, (.iload_n 2, 1)), (3, (.aload_n 0, 1)), (4, (.getfield 36, 3)), (7, (.if_icmp .ge 23, 3)), (10, (.aload_n 0, 1)), (11, (.getfield 14, 3)), (14, (.iload_n 2, 1)), (15, (.invokevirtual 49, 3)), (18, (.iload_n 1, 1)), (19, (.if_icmp .ne 5, 3)), (22, (.iload_n 2, 1)), (23, (.ireturn, 1)), (24, (.iinc 2 1, 3)), (27, (.goto (-25), 3)), (30, (.iconst (-1), 1)), (31, (.ireturn, 1))] = true := zDs 0 (by decide +kernel)
theorem d_Sorts_indexOf_0 : decode (zb m_Sorts_indexOf) 0 = .ok (.iconst 0, 1) := zdal_p dlA_Sorts_indexOf_41 (i := 0) rfl
theorem d_Sorts_indexOf_1 : decode (zb m_Sorts_indexOf) 1 = .ok (.istore_n 2, 1) := zdal_p dlA_Sorts_indexOf_41 (i := 1) rfl
theorem d_Sorts_indexOf_2 : decode (zb m_Sorts_indexOf) 2 = .ok (.iload_n 2, 1) := zdal_p dlA_Sorts_indexOf_41 (i := 2) rfl
theorem d_Sorts_indexOf_3 : decode (zb m_Sorts_indexOf) 3 = .ok (.aload_n 0, 1) := zdal_p dlA_Sorts_indexOf_41 (i := 3) rfl
theorem d_Sorts_indexOf_4 : decode (zb m_Sorts_indexOf) 4 = .ok (.getfield 36, 3) := zdal_p dlA_Sorts_indexOf_41 (i := 4) rfl
theorem d_Sorts_indexOf_7 : decode (zb m_Sorts_indexOf) 7 = .ok (.if_icmp .ge 23, 3) := zdal_p dlA_Sorts_indexOf_41 (i := 5) rfl
theorem d_Sorts_indexOf_10 : decode (zb m_Sorts_indexOf) 10 = .ok (.aload_n 0, 1) := zdal_p dlA_Sorts_indexOf_41 (i := 6) rfl
theorem d_Sorts_indexOf_11 : decode (zb m_Sorts_indexOf) 11 = .ok (.getfield 14, 3) := zdal_p dlA_Sorts_indexOf_41 (i := 7) rfl
theorem d_Sorts_indexOf_14 : decode (zb m_Sorts_indexOf) 14 = .ok (.iload_n 2, 1) := zdal_p dlA_Sorts_indexOf_41 (i := 8) rfl
theorem d_Sorts_indexOf_15 : decode (zb m_Sorts_indexOf) 15 = .ok (.invokevirtual 49, 3) := zdal_p dlA_Sorts_indexOf_41 (i := 9) rfl
theorem d_Sorts_indexOf_18 : decode (zb m_Sorts_indexOf) 18 = .ok (.iload_n 1, 1) := zdal_p dlA_Sorts_indexOf_41 (i := 10) rfl
theorem d_Sorts_indexOf_19 : decode (zb m_Sorts_indexOf) 19 = .ok (.if_icmp .ne 5, 3) := zdal_p dlA_Sorts_indexOf_41 (i := 11) rfl
theorem d_Sorts_indexOf_22 : decode (zb m_Sorts_indexOf) 22 = .ok (.iload_n 2, 1) := zdal_p dlA_Sorts_indexOf_41 (i := 12) rfl
theorem d_Sorts_indexOf_23 : decode (zb m_Sorts_indexOf) 23 = .ok (.ireturn, 1) := zdal_p dlA_Sorts_indexOf_41 (i := 13) rfl
theorem d_Sorts_indexOf_24 : decode (zb m_Sorts_indexOf) 24 = .ok (.iinc 2 1, 3) := zdal_p dlA_Sorts_indexOf_41 (i := 14) rfl
theorem d_Sorts_indexOf_27 : decode (zb m_Sorts_indexOf) 27 = .ok (.goto (-25), 3) := zdal_p dlA_Sorts_indexOf_41 (i := 15) rfl
theorem d_Sorts_indexOf_30 : decode (zb m_Sorts_indexOf) 30 = .ok (.iconst (-1), 1) := zdal_p dlA_Sorts_indexOf_41 (i := 16) rfl
theorem d_Sorts_indexOf_31 : decode (zb m_Sorts_indexOf) 31 = .ok (.ireturn, 1) := zdal_p dlA_Sorts_indexOf_41 (i := 17) rfl
theorem dlA_Sorts_arrange_42 : zdal (zb m_Sorts_arrange) [(0, (.iconst 1, 1)), (1, (.istore_n 1, 1)), (2, (.iload_n 1, 1)), (3, (.aload_n 0, 1)), (4, (.getfield 36, 3)), (7, (.if_icmp .ge 74, 3)), (10, (.aload_n 0, 1)), (11, (.getfield 14, 3)), (14, (.iload_n 1, 1)), (15, (.invokevirtual 49, 3)), (18, (.istore_n 2, 1)), (19, (.iload_n 1, 1)), (20, (.istore_n 3, 1)), (21, (.iload_n 3, 1)), (22, (.ifCond .le 44, 3)), (25, (.iload_n 2, 1)), (26, (.aload_n 0, 1)), (27, (.getfield 14, 3)), (30, (.iload_n 3, 1)), (31, (.iconst 1, 1)), (32, (.isub, 1)), (33, (.invokevirtual 49, 3)), (36, (.invokestatic 75, 3)), (39, (.ifCond .eq 27, 3))] = true := zDs 0 (by decide +kernel)
theorem d_Sorts_arrange_0 : decode (zb m_Sorts_arrange) 0 = .ok (.iconst 1, 1) := zdal_p dlA_Sorts_arrange_42 (i := 0) rfl
theorem d_Sorts_arrange_1 : decode (zb m_Sorts_arrange) 1 = .ok (.istore_n 1, 1) := zdal_p dlA_Sorts_arrange_42 (i := 1) rfl
theorem d_Sorts_arrange_2 : decode (zb m_Sorts_arrange) 2 = .ok (.iload_n 1, 1) := zdal_p dlA_Sorts_arrange_42 (i := 2) rfl
theorem d_Sorts_arrange_3 : decode (zb m_Sorts_arrange) 3 = .ok (.aload_n 0, 1) := zdal_p dlA_Sorts_arrange_42 (i := 3) rfl
theorem d_Sorts_arrange_4 : decode (zb m_Sorts_arrange) 4 = .ok (.getfield 36, 3) := zdal_p dlA_Sorts_arrange_42 (i := 4) rfl
theorem d_Sorts_arrange_7 : decode (zb m_Sorts_arrange) 7 = .ok (.if_icmp .ge 74, 3) := zdal_p dlA_Sorts_arrange_42 (i := 5) rfl
theorem d_Sorts_arrange_10 : decode (zb m_Sorts_arrange) 10 = .ok (.aload_n 0, 1) := zdal_p dlA_Sorts_arrange_42 (i := 6) rfl
theorem d_Sorts_arrange_11 : decode (zb m_Sorts_arrange) 11 = .ok (.getfield 14, 3) := zdal_p dlA_Sorts_arrange_42 (i := 7) rfl
theorem d_Sorts_arrange_14 : decode (zb m_Sorts_arrange) 14 = .ok (.iload_n 1, 1) := zdal_p dlA_Sorts_arrange_42 (i := 8) rfl
theorem d_Sorts_arrange_15 : decode (zb m_Sorts_arrange) 15 = .ok (.invokevirtual 49, 3) := zdal_p dlA_Sorts_arrange_42 (i := 9) rfl
theorem d_Sorts_arrange_18 : decode (zb m_Sorts_arrange) 18 = .ok (.istore_n 2, 1) := zdal_p dlA_Sorts_arrange_42 (i := 10) rfl
theorem d_Sorts_arrange_19 : decode (zb m_Sorts_arrange) 19 = .ok (.iload_n 1, 1) := zdal_p dlA_Sorts_arrange_42 (i := 11) rfl
theorem d_Sorts_arrange_20 : decode (zb m_Sorts_arrange) 20 = .ok (.istore_n 3, 1) := zdal_p dlA_Sorts_arrange_42 (i := 12) rfl
theorem d_Sorts_arrange_21 : decode (zb m_Sorts_arrange) 21 = .ok (.iload_n 3, 1) := zdal_p dlA_Sorts_arrange_42 (i := 13) rfl
theorem d_Sorts_arrange_22 : decode (zb m_Sorts_arrange) 22 = .ok (.ifCond .le 44, 3) := zdal_p dlA_Sorts_arrange_42 (i := 14) rfl
theorem d_Sorts_arrange_25 : decode (zb m_Sorts_arrange) 25 = .ok (.iload_n 2, 1) := zdal_p dlA_Sorts_arrange_42 (i := 15) rfl
theorem d_Sorts_arrange_26 : decode (zb m_Sorts_arrange) 26 = .ok (.aload_n 0, 1) := zdal_p dlA_Sorts_arrange_42 (i := 16) rfl
theorem d_Sorts_arrange_27 : decode (zb m_Sorts_arrange) 27 = .ok (.getfield 14, 3) := zdal_p dlA_Sorts_arrange_42 (i := 17) rfl
theorem d_Sorts_arrange_30 : decode (zb m_Sorts_arrange) 30 = .ok (.iload_n 3, 1) := zdal_p dlA_Sorts_arrange_42 (i := 18) rfl
theorem d_Sorts_arrange_31 : decode (zb m_Sorts_arrange) 31 = .ok (.iconst 1, 1) := zdal_p dlA_Sorts_arrange_42 (i := 19) rfl
theorem d_Sorts_arrange_32 : decode (zb m_Sorts_arrange) 32 = .ok (.isub, 1) := zdal_p dlA_Sorts_arrange_42 (i := 20) rfl
theorem d_Sorts_arrange_33 : decode (zb m_Sorts_arrange) 33 = .ok (.invokevirtual 49, 3) := zdal_p dlA_Sorts_arrange_42 (i := 21) rfl
theorem d_Sorts_arrange_36 : decode (zb m_Sorts_arrange) 36 = .ok (.invokestatic 75, 3) := zdal_p dlA_Sorts_arrange_42 (i := 22) rfl
theorem d_Sorts_arrange_39 : decode (zb m_Sorts_arrange) 39 = .ok (.ifCond .eq 27, 3) := zdal_p dlA_Sorts_arrange_42 (i := 23) rfl
theorem dlA_Sorts_arrange_43 : zdal (zb m_Sorts_arrange) [(42, (.aload_n 0, 1)), (43, (.getfield 14, 3)), (46, (.iload_n 3, 1)), (47, (.aload_n 0, 1)), (48, (.getfield 14, 3)), (51, (.iload_n 3, 1)), (52, (.iconst 1, 1)), (53, (.isub, 1)), (54, (.invokevirtual 49, 3)), (57, (.invokevirtual 40, 3)), (60, (.iinc 3 (-1), 3)), (63, (.goto (-42), 3)), (66, (.aload_n 0, 1)), (67, (.getfield 14, 3)), (70, (.iload_n 3, 1)), (71, (.iload_n 2, 1)), (72, (.invokevirtual 40, 3)), (75, (.iinc 1 1, 3)), (78, (.goto (-76), 3)), (81, (.return_, 1))] = true := zDs 42 (by decide +kernel)
theorem d_Sorts_arrange_42 : decode (zb m_Sorts_arrange) 42 = .ok (.aload_n 0, 1) := zdal_p dlA_Sorts_arrange_43 (i := 0) rfl
theorem d_Sorts_arrange_43 : decode (zb m_Sorts_arrange) 43 = .ok (.getfield 14, 3) := zdal_p dlA_Sorts_arrange_43 (i := 1) rfl
theorem d_Sorts_arrange_46 : decode (zb m_Sorts_arrange) 46 = .ok (.iload_n 3, 1) := zdal_p dlA_Sorts_arrange_43 (i := 2) rfl
theorem d_Sorts_arrange_47 : decode (zb m_Sorts_arrange) 47 = .ok (.aload_n 0, 1) := zdal_p dlA_Sorts_arrange_43 (i := 3) rfl
theorem d_Sorts_arrange_48 : decode (zb m_Sorts_arrange) 48 = .ok (.getfield 14, 3) := zdal_p dlA_Sorts_arrange_43 (i := 4) rfl
theorem d_Sorts_arrange_51 : decode (zb m_Sorts_arrange) 51 = .ok (.iload_n 3, 1) := zdal_p dlA_Sorts_arrange_43 (i := 5) rfl
theorem d_Sorts_arrange_52 : decode (zb m_Sorts_arrange) 52 = .ok (.iconst 1, 1) := zdal_p dlA_Sorts_arrange_43 (i := 6) rfl
theorem d_Sorts_arrange_53 : decode (zb m_Sorts_arrange) 53 = .ok (.isub, 1) := zdal_p dlA_Sorts_arrange_43 (i := 7) rfl
theorem d_Sorts_arrange_54 : decode (zb m_Sorts_arrange) 54 = .ok (.invokevirtual 49, 3) := zdal_p dlA_Sorts_arrange_43 (i := 8) rfl
theorem d_Sorts_arrange_57 : decode (zb m_Sorts_arrange) 57 = .ok (.invokevirtual 40, 3) := zdal_p dlA_Sorts_arrange_43 (i := 9) rfl
theorem d_Sorts_arrange_60 : decode (zb m_Sorts_arrange) 60 = .ok (.iinc 3 (-1), 3) := zdal_p dlA_Sorts_arrange_43 (i := 10) rfl
theorem d_Sorts_arrange_63 : decode (zb m_Sorts_arrange) 63 = .ok (.goto (-42), 3) := zdal_p dlA_Sorts_arrange_43 (i := 11) rfl
theorem d_Sorts_arrange_66 : decode (zb m_Sorts_arrange) 66 = .ok (.aload_n 0, 1) := zdal_p dlA_Sorts_arrange_43 (i := 12) rfl
theorem d_Sorts_arrange_67 : decode (zb m_Sorts_arrange) 67 = .ok (.getfield 14, 3) := zdal_p dlA_Sorts_arrange_43 (i := 13) rfl
theorem d_Sorts_arrange_70 : decode (zb m_Sorts_arrange) 70 = .ok (.iload_n 3, 1) := zdal_p dlA_Sorts_arrange_43 (i := 14) rfl
theorem d_Sorts_arrange_71 : decode (zb m_Sorts_arrange) 71 = .ok (.iload_n 2, 1) := zdal_p dlA_Sorts_arrange_43 (i := 15) rfl
theorem d_Sorts_arrange_72 : decode (zb m_Sorts_arrange) 72 = .ok (.invokevirtual 40, 3) := zdal_p dlA_Sorts_arrange_43 (i := 16) rfl
theorem d_Sorts_arrange_75 : decode (zb m_Sorts_arrange) 75 = .ok (.iinc 1 1, 3) := zdal_p dlA_Sorts_arrange_43 (i := 17) rfl
theorem d_Sorts_arrange_78 : decode (zb m_Sorts_arrange) 78 = .ok (.goto (-76), 3) := zdal_p dlA_Sorts_arrange_43 (i := 18) rfl
theorem d_Sorts_arrange_81 : decode (zb m_Sorts_arrange) 81 = .ok (.return_, 1) := zdal_p dlA_Sorts_arrange_43 (i := 19) rfl
theorem dlA_Sorts_isAhead_44 : zdal (zb m_Sorts_isAhead) [(0, (.iload_n 0, 1)), (1, (.invokestatic 78, 3)), (4, (.iload_n 1, 1)), (5, (.invokestatic 78, 3)), (8, (.isub, 1)), (9, (.istore_n 2, 1)), (10, (.iload_n 2, 1)), (11, (.ifCond .lt 12, 3)), (14, (.iload_n 2, 1)), (15, (.ifCond .ne 12, 3)), (18, (.iload_n 0, 1)), (19, (.iload_n 1, 1)), (20, (.if_icmp .ge 7, 3)), (23, (.iconst 1, 1)), (24, (.goto 4, 3)), (27, (.iconst 0, 1)), (28, (.ireturn, 1))] = true := zDs 0 (by decide +kernel)
theorem d_Sorts_isAhead_0 : decode (zb m_Sorts_isAhead) 0 = .ok (.iload_n 0, 1) := zdal_p dlA_Sorts_isAhead_44 (i := 0) rfl
theorem d_Sorts_isAhead_1 : decode (zb m_Sorts_isAhead) 1 = .ok (.invokestatic 78, 3) := zdal_p dlA_Sorts_isAhead_44 (i := 1) rfl
theorem d_Sorts_isAhead_4 : decode (zb m_Sorts_isAhead) 4 = .ok (.iload_n 1, 1) := zdal_p dlA_Sorts_isAhead_44 (i := 2) rfl
theorem d_Sorts_isAhead_5 : decode (zb m_Sorts_isAhead) 5 = .ok (.invokestatic 78, 3) := zdal_p dlA_Sorts_isAhead_44 (i := 3) rfl
theorem d_Sorts_isAhead_8 : decode (zb m_Sorts_isAhead) 8 = .ok (.isub, 1) := zdal_p dlA_Sorts_isAhead_44 (i := 4) rfl
theorem d_Sorts_isAhead_9 : decode (zb m_Sorts_isAhead) 9 = .ok (.istore_n 2, 1) := zdal_p dlA_Sorts_isAhead_44 (i := 5) rfl
theorem d_Sorts_isAhead_10 : decode (zb m_Sorts_isAhead) 10 = .ok (.iload_n 2, 1) := zdal_p dlA_Sorts_isAhead_44 (i := 6) rfl
theorem d_Sorts_isAhead_11 : decode (zb m_Sorts_isAhead) 11 = .ok (.ifCond .lt 12, 3) := zdal_p dlA_Sorts_isAhead_44 (i := 7) rfl
theorem d_Sorts_isAhead_14 : decode (zb m_Sorts_isAhead) 14 = .ok (.iload_n 2, 1) := zdal_p dlA_Sorts_isAhead_44 (i := 8) rfl
theorem d_Sorts_isAhead_15 : decode (zb m_Sorts_isAhead) 15 = .ok (.ifCond .ne 12, 3) := zdal_p dlA_Sorts_isAhead_44 (i := 9) rfl
theorem d_Sorts_isAhead_18 : decode (zb m_Sorts_isAhead) 18 = .ok (.iload_n 0, 1) := zdal_p dlA_Sorts_isAhead_44 (i := 10) rfl
theorem d_Sorts_isAhead_19 : decode (zb m_Sorts_isAhead) 19 = .ok (.iload_n 1, 1) := zdal_p dlA_Sorts_isAhead_44 (i := 11) rfl
theorem d_Sorts_isAhead_20 : decode (zb m_Sorts_isAhead) 20 = .ok (.if_icmp .ge 7, 3) := zdal_p dlA_Sorts_isAhead_44 (i := 12) rfl
theorem d_Sorts_isAhead_23 : decode (zb m_Sorts_isAhead) 23 = .ok (.iconst 1, 1) := zdal_p dlA_Sorts_isAhead_44 (i := 13) rfl
theorem d_Sorts_isAhead_24 : decode (zb m_Sorts_isAhead) 24 = .ok (.goto 4, 3) := zdal_p dlA_Sorts_isAhead_44 (i := 14) rfl
theorem d_Sorts_isAhead_27 : decode (zb m_Sorts_isAhead) 27 = .ok (.iconst 0, 1) := zdal_p dlA_Sorts_isAhead_44 (i := 15) rfl
theorem d_Sorts_isAhead_28 : decode (zb m_Sorts_isAhead) 28 = .ok (.ireturn, 1) := zdal_p dlA_Sorts_isAhead_44 (i := 16) rfl
theorem dlA_Sorts_numberSorts_45 : zdal (zb m_Sorts_numberSorts) [(0, (.aload_n 0, 1)), (1, (.iconst 0, 1)), (2, (.putfield 83, 3)), (5, (.iconst 0, 1)), (6, (.istore_n 1, 1)), (7, (.iload_n 1, 1)), (8, (.aload_n 0, 1)), (9, (.getfield 36, 3)), (12, (.if_icmp .ge 18, 3)), (15, (.aload_n 0, 1)), (16, (.getfield 20, 3)), (19, (.iload_n 1, 1)), (20, (.iconst (-1), 1)), (21, (.invokevirtual 40, 3)), (24, (.iinc 1 1, 3)), (27, (.goto (-20), 3)), (30, (.iconst 0, 1)), (31, (.istore_n 1, 1)), (32, (.iload_n 1, 1)), (33, (.aload_n 0, 1)), (34, (.getfield 36, 3)), (37, (.if_icmp .ge 112, 3)), (40, (.aload_n 0, 1)), (41, (.getfield 20, 3))] = true := zDs 0 (by decide +kernel)
theorem d_Sorts_numberSorts_0 : decode (zb m_Sorts_numberSorts) 0 = .ok (.aload_n 0, 1) := zdal_p dlA_Sorts_numberSorts_45 (i := 0) rfl
theorem d_Sorts_numberSorts_1 : decode (zb m_Sorts_numberSorts) 1 = .ok (.iconst 0, 1) := zdal_p dlA_Sorts_numberSorts_45 (i := 1) rfl
theorem d_Sorts_numberSorts_2 : decode (zb m_Sorts_numberSorts) 2 = .ok (.putfield 83, 3) := zdal_p dlA_Sorts_numberSorts_45 (i := 2) rfl
theorem d_Sorts_numberSorts_5 : decode (zb m_Sorts_numberSorts) 5 = .ok (.iconst 0, 1) := zdal_p dlA_Sorts_numberSorts_45 (i := 3) rfl
theorem d_Sorts_numberSorts_6 : decode (zb m_Sorts_numberSorts) 6 = .ok (.istore_n 1, 1) := zdal_p dlA_Sorts_numberSorts_45 (i := 4) rfl
theorem d_Sorts_numberSorts_7 : decode (zb m_Sorts_numberSorts) 7 = .ok (.iload_n 1, 1) := zdal_p dlA_Sorts_numberSorts_45 (i := 5) rfl
theorem d_Sorts_numberSorts_8 : decode (zb m_Sorts_numberSorts) 8 = .ok (.aload_n 0, 1) := zdal_p dlA_Sorts_numberSorts_45 (i := 6) rfl
theorem d_Sorts_numberSorts_9 : decode (zb m_Sorts_numberSorts) 9 = .ok (.getfield 36, 3) := zdal_p dlA_Sorts_numberSorts_45 (i := 7) rfl
theorem d_Sorts_numberSorts_12 : decode (zb m_Sorts_numberSorts) 12 = .ok (.if_icmp .ge 18, 3) := zdal_p dlA_Sorts_numberSorts_45 (i := 8) rfl
theorem d_Sorts_numberSorts_15 : decode (zb m_Sorts_numberSorts) 15 = .ok (.aload_n 0, 1) := zdal_p dlA_Sorts_numberSorts_45 (i := 9) rfl
theorem d_Sorts_numberSorts_16 : decode (zb m_Sorts_numberSorts) 16 = .ok (.getfield 20, 3) := zdal_p dlA_Sorts_numberSorts_45 (i := 10) rfl
theorem d_Sorts_numberSorts_19 : decode (zb m_Sorts_numberSorts) 19 = .ok (.iload_n 1, 1) := zdal_p dlA_Sorts_numberSorts_45 (i := 11) rfl
theorem d_Sorts_numberSorts_20 : decode (zb m_Sorts_numberSorts) 20 = .ok (.iconst (-1), 1) := zdal_p dlA_Sorts_numberSorts_45 (i := 12) rfl
theorem d_Sorts_numberSorts_21 : decode (zb m_Sorts_numberSorts) 21 = .ok (.invokevirtual 40, 3) := zdal_p dlA_Sorts_numberSorts_45 (i := 13) rfl
theorem d_Sorts_numberSorts_24 : decode (zb m_Sorts_numberSorts) 24 = .ok (.iinc 1 1, 3) := zdal_p dlA_Sorts_numberSorts_45 (i := 14) rfl
theorem d_Sorts_numberSorts_27 : decode (zb m_Sorts_numberSorts) 27 = .ok (.goto (-20), 3) := zdal_p dlA_Sorts_numberSorts_45 (i := 15) rfl
theorem d_Sorts_numberSorts_30 : decode (zb m_Sorts_numberSorts) 30 = .ok (.iconst 0, 1) := zdal_p dlA_Sorts_numberSorts_45 (i := 16) rfl
theorem d_Sorts_numberSorts_31 : decode (zb m_Sorts_numberSorts) 31 = .ok (.istore_n 1, 1) := zdal_p dlA_Sorts_numberSorts_45 (i := 17) rfl
theorem d_Sorts_numberSorts_32 : decode (zb m_Sorts_numberSorts) 32 = .ok (.iload_n 1, 1) := zdal_p dlA_Sorts_numberSorts_45 (i := 18) rfl
theorem d_Sorts_numberSorts_33 : decode (zb m_Sorts_numberSorts) 33 = .ok (.aload_n 0, 1) := zdal_p dlA_Sorts_numberSorts_45 (i := 19) rfl
theorem d_Sorts_numberSorts_34 : decode (zb m_Sorts_numberSorts) 34 = .ok (.getfield 36, 3) := zdal_p dlA_Sorts_numberSorts_45 (i := 20) rfl
theorem d_Sorts_numberSorts_37 : decode (zb m_Sorts_numberSorts) 37 = .ok (.if_icmp .ge 112, 3) := zdal_p dlA_Sorts_numberSorts_45 (i := 21) rfl
theorem d_Sorts_numberSorts_40 : decode (zb m_Sorts_numberSorts) 40 = .ok (.aload_n 0, 1) := zdal_p dlA_Sorts_numberSorts_45 (i := 22) rfl
theorem d_Sorts_numberSorts_41 : decode (zb m_Sorts_numberSorts) 41 = .ok (.getfield 20, 3) := zdal_p dlA_Sorts_numberSorts_45 (i := 23) rfl
theorem dlA_Sorts_numberSorts_46 : zdal (zb m_Sorts_numberSorts) [(44, (.iload_n 1, 1)), (45, (.invokevirtual 49, 3)), (48, (.iconst (-1), 1)), (49, (.if_icmp .ne 94, 3)), (52, (.aload_n 0, 1)), (53, (.getfield 83, 3)), (56, (.bipush 27, 2)), (58, (.if_icmp .lt 6, 3)), (61, (.goto 82, 3)), (64, (.aload_n 0, 1)), (65, (.getfield 26, 3)), (68, (.aload_n 0, 1)), (69, (.getfield 83, 3)), (72, (.aload_n 0, 1)), (73, (.getfield 14, 3)), (76, (.iload_n 1, 1)), (77, (.invokevirtual 49, 3)), (80, (.invokevirtual 40, 3)), (83, (.iconst 0, 1)), (84, (.istore_n 2, 1)), (85, (.iload_n 2, 1)), (86, (.aload_n 0, 1)), (87, (.getfield 32, 3)), (90, (.getfield 44, 3))] = true := zDs 44 (by decide +kernel)
theorem d_Sorts_numberSorts_44 : decode (zb m_Sorts_numberSorts) 44 = .ok (.iload_n 1, 1) := zdal_p dlA_Sorts_numberSorts_46 (i := 0) rfl
theorem d_Sorts_numberSorts_45 : decode (zb m_Sorts_numberSorts) 45 = .ok (.invokevirtual 49, 3) := zdal_p dlA_Sorts_numberSorts_46 (i := 1) rfl
theorem d_Sorts_numberSorts_48 : decode (zb m_Sorts_numberSorts) 48 = .ok (.iconst (-1), 1) := zdal_p dlA_Sorts_numberSorts_46 (i := 2) rfl
theorem d_Sorts_numberSorts_49 : decode (zb m_Sorts_numberSorts) 49 = .ok (.if_icmp .ne 94, 3) := zdal_p dlA_Sorts_numberSorts_46 (i := 3) rfl
theorem d_Sorts_numberSorts_52 : decode (zb m_Sorts_numberSorts) 52 = .ok (.aload_n 0, 1) := zdal_p dlA_Sorts_numberSorts_46 (i := 4) rfl
theorem d_Sorts_numberSorts_53 : decode (zb m_Sorts_numberSorts) 53 = .ok (.getfield 83, 3) := zdal_p dlA_Sorts_numberSorts_46 (i := 5) rfl
theorem d_Sorts_numberSorts_56 : decode (zb m_Sorts_numberSorts) 56 = .ok (.bipush 27, 2) := zdal_p dlA_Sorts_numberSorts_46 (i := 6) rfl
theorem d_Sorts_numberSorts_58 : decode (zb m_Sorts_numberSorts) 58 = .ok (.if_icmp .lt 6, 3) := zdal_p dlA_Sorts_numberSorts_46 (i := 7) rfl
theorem d_Sorts_numberSorts_64 : decode (zb m_Sorts_numberSorts) 64 = .ok (.aload_n 0, 1) := zdal_p dlA_Sorts_numberSorts_46 (i := 9) rfl
theorem d_Sorts_numberSorts_65 : decode (zb m_Sorts_numberSorts) 65 = .ok (.getfield 26, 3) := zdal_p dlA_Sorts_numberSorts_46 (i := 10) rfl
theorem d_Sorts_numberSorts_68 : decode (zb m_Sorts_numberSorts) 68 = .ok (.aload_n 0, 1) := zdal_p dlA_Sorts_numberSorts_46 (i := 11) rfl
theorem d_Sorts_numberSorts_69 : decode (zb m_Sorts_numberSorts) 69 = .ok (.getfield 83, 3) := zdal_p dlA_Sorts_numberSorts_46 (i := 12) rfl
theorem d_Sorts_numberSorts_72 : decode (zb m_Sorts_numberSorts) 72 = .ok (.aload_n 0, 1) := zdal_p dlA_Sorts_numberSorts_46 (i := 13) rfl
theorem d_Sorts_numberSorts_73 : decode (zb m_Sorts_numberSorts) 73 = .ok (.getfield 14, 3) := zdal_p dlA_Sorts_numberSorts_46 (i := 14) rfl
theorem d_Sorts_numberSorts_76 : decode (zb m_Sorts_numberSorts) 76 = .ok (.iload_n 1, 1) := zdal_p dlA_Sorts_numberSorts_46 (i := 15) rfl
theorem d_Sorts_numberSorts_77 : decode (zb m_Sorts_numberSorts) 77 = .ok (.invokevirtual 49, 3) := zdal_p dlA_Sorts_numberSorts_46 (i := 16) rfl
theorem d_Sorts_numberSorts_80 : decode (zb m_Sorts_numberSorts) 80 = .ok (.invokevirtual 40, 3) := zdal_p dlA_Sorts_numberSorts_46 (i := 17) rfl
theorem d_Sorts_numberSorts_83 : decode (zb m_Sorts_numberSorts) 83 = .ok (.iconst 0, 1) := zdal_p dlA_Sorts_numberSorts_46 (i := 18) rfl
theorem d_Sorts_numberSorts_84 : decode (zb m_Sorts_numberSorts) 84 = .ok (.istore_n 2, 1) := zdal_p dlA_Sorts_numberSorts_46 (i := 19) rfl
theorem d_Sorts_numberSorts_85 : decode (zb m_Sorts_numberSorts) 85 = .ok (.iload_n 2, 1) := zdal_p dlA_Sorts_numberSorts_46 (i := 20) rfl
theorem d_Sorts_numberSorts_86 : decode (zb m_Sorts_numberSorts) 86 = .ok (.aload_n 0, 1) := zdal_p dlA_Sorts_numberSorts_46 (i := 21) rfl
theorem d_Sorts_numberSorts_87 : decode (zb m_Sorts_numberSorts) 87 = .ok (.getfield 32, 3) := zdal_p dlA_Sorts_numberSorts_46 (i := 22) rfl
theorem d_Sorts_numberSorts_90 : decode (zb m_Sorts_numberSorts) 90 = .ok (.getfield 44, 3) := zdal_p dlA_Sorts_numberSorts_46 (i := 23) rfl
theorem dlA_Sorts_numberSorts_47 : zdal (zb m_Sorts_numberSorts) [(93, (.if_icmp .ge 40, 3)), (96, (.aload_n 0, 1)), (97, (.getfield 20, 3)), (100, (.aload_n 0, 1)), (101, (.aload_n 0, 1)), (102, (.getfield 32, 3)), (105, (.aload_n 0, 1)), (106, (.getfield 14, 3)), (109, (.iload_n 1, 1)), (110, (.invokevirtual 49, 3)), (113, (.iload_n 2, 1)), (114, (.invokevirtual 86, 3)), (117, (.invokevirtual 72, 3)), (120, (.aload_n 0, 1)), (121, (.getfield 83, 3)), (124, (.invokevirtual 40, 3)), (127, (.iinc 2 1, 3)), (130, (.goto (-45), 3)), (133, (.aload_n 0, 1)), (134, (.dup, 1)), (135, (.getfield 83, 3)), (138, (.iconst 1, 1)), (139, (.iadd, 1)), (140, (.putfield 83, 3))] = true := zDs 93 (by decide +kernel)
theorem d_Sorts_numberSorts_93 : decode (zb m_Sorts_numberSorts) 93 = .ok (.if_icmp .ge 40, 3) := zdal_p dlA_Sorts_numberSorts_47 (i := 0) rfl
theorem d_Sorts_numberSorts_96 : decode (zb m_Sorts_numberSorts) 96 = .ok (.aload_n 0, 1) := zdal_p dlA_Sorts_numberSorts_47 (i := 1) rfl
theorem d_Sorts_numberSorts_97 : decode (zb m_Sorts_numberSorts) 97 = .ok (.getfield 20, 3) := zdal_p dlA_Sorts_numberSorts_47 (i := 2) rfl
theorem d_Sorts_numberSorts_100 : decode (zb m_Sorts_numberSorts) 100 = .ok (.aload_n 0, 1) := zdal_p dlA_Sorts_numberSorts_47 (i := 3) rfl
theorem d_Sorts_numberSorts_101 : decode (zb m_Sorts_numberSorts) 101 = .ok (.aload_n 0, 1) := zdal_p dlA_Sorts_numberSorts_47 (i := 4) rfl
theorem d_Sorts_numberSorts_102 : decode (zb m_Sorts_numberSorts) 102 = .ok (.getfield 32, 3) := zdal_p dlA_Sorts_numberSorts_47 (i := 5) rfl
theorem d_Sorts_numberSorts_105 : decode (zb m_Sorts_numberSorts) 105 = .ok (.aload_n 0, 1) := zdal_p dlA_Sorts_numberSorts_47 (i := 6) rfl
theorem d_Sorts_numberSorts_106 : decode (zb m_Sorts_numberSorts) 106 = .ok (.getfield 14, 3) := zdal_p dlA_Sorts_numberSorts_47 (i := 7) rfl
theorem d_Sorts_numberSorts_109 : decode (zb m_Sorts_numberSorts) 109 = .ok (.iload_n 1, 1) := zdal_p dlA_Sorts_numberSorts_47 (i := 8) rfl
theorem d_Sorts_numberSorts_110 : decode (zb m_Sorts_numberSorts) 110 = .ok (.invokevirtual 49, 3) := zdal_p dlA_Sorts_numberSorts_47 (i := 9) rfl
theorem d_Sorts_numberSorts_113 : decode (zb m_Sorts_numberSorts) 113 = .ok (.iload_n 2, 1) := zdal_p dlA_Sorts_numberSorts_47 (i := 10) rfl
theorem d_Sorts_numberSorts_114 : decode (zb m_Sorts_numberSorts) 114 = .ok (.invokevirtual 86, 3) := zdal_p dlA_Sorts_numberSorts_47 (i := 11) rfl
theorem d_Sorts_numberSorts_117 : decode (zb m_Sorts_numberSorts) 117 = .ok (.invokevirtual 72, 3) := zdal_p dlA_Sorts_numberSorts_47 (i := 12) rfl
theorem d_Sorts_numberSorts_120 : decode (zb m_Sorts_numberSorts) 120 = .ok (.aload_n 0, 1) := zdal_p dlA_Sorts_numberSorts_47 (i := 13) rfl
theorem d_Sorts_numberSorts_121 : decode (zb m_Sorts_numberSorts) 121 = .ok (.getfield 83, 3) := zdal_p dlA_Sorts_numberSorts_47 (i := 14) rfl
theorem d_Sorts_numberSorts_124 : decode (zb m_Sorts_numberSorts) 124 = .ok (.invokevirtual 40, 3) := zdal_p dlA_Sorts_numberSorts_47 (i := 15) rfl
theorem d_Sorts_numberSorts_127 : decode (zb m_Sorts_numberSorts) 127 = .ok (.iinc 2 1, 3) := zdal_p dlA_Sorts_numberSorts_47 (i := 16) rfl
theorem d_Sorts_numberSorts_130 : decode (zb m_Sorts_numberSorts) 130 = .ok (.goto (-45), 3) := zdal_p dlA_Sorts_numberSorts_47 (i := 17) rfl
theorem d_Sorts_numberSorts_133 : decode (zb m_Sorts_numberSorts) 133 = .ok (.aload_n 0, 1) := zdal_p dlA_Sorts_numberSorts_47 (i := 18) rfl
theorem d_Sorts_numberSorts_134 : decode (zb m_Sorts_numberSorts) 134 = .ok (.dup, 1) := zdal_p dlA_Sorts_numberSorts_47 (i := 19) rfl
theorem d_Sorts_numberSorts_135 : decode (zb m_Sorts_numberSorts) 135 = .ok (.getfield 83, 3) := zdal_p dlA_Sorts_numberSorts_47 (i := 20) rfl
theorem d_Sorts_numberSorts_138 : decode (zb m_Sorts_numberSorts) 138 = .ok (.iconst 1, 1) := zdal_p dlA_Sorts_numberSorts_47 (i := 21) rfl
theorem d_Sorts_numberSorts_139 : decode (zb m_Sorts_numberSorts) 139 = .ok (.iadd, 1) := zdal_p dlA_Sorts_numberSorts_47 (i := 22) rfl
theorem d_Sorts_numberSorts_140 : decode (zb m_Sorts_numberSorts) 140 = .ok (.putfield 83, 3) := zdal_p dlA_Sorts_numberSorts_47 (i := 23) rfl
theorem dlA_Sorts_numberSorts_48 : zdal (zb m_Sorts_numberSorts) [(143, (.iinc 1 1, 3)), (146, (.goto (-114), 3)), (149, (.return_, 1))] = true := zDs 143 (by decide +kernel)
theorem d_Sorts_numberSorts_143 : decode (zb m_Sorts_numberSorts) 143 = .ok (.iinc 1 1, 3) := zdal_p dlA_Sorts_numberSorts_48 (i := 0) rfl
theorem d_Sorts_numberSorts_146 : decode (zb m_Sorts_numberSorts) 146 = .ok (.goto (-114), 3) := zdal_p dlA_Sorts_numberSorts_48 (i := 1) rfl
theorem d_Sorts_numberSorts_149 : decode (zb m_Sorts_numberSorts) 149 = .ok (.return_, 1) := zdal_p dlA_Sorts_numberSorts_48 (i := 2) rfl
theorem dlA_Group_turnAll_49 : zdal (zb m_Group_turnAll) [(0, (.iconst 0, 1)), (1, (.istore_n 3, 1)), (2, (.iconst 0, 1)), (3, (.istore 4, 2)), (5, (.iload 4, 2)), (7, (.aload_n 0, 1)), (8, (.getfield 39, 3)), (11, (.if_icmp .ge 30, 3)), (14, (.iload_n 1, 1)), (15, (.iload 4, 2)), (17, (.invokestatic 73, 3)), (20, (.ifCond .eq 15, 3)), (23, (.iload_n 3, 1)), (24, (.iconst 1, 1)), (25, (.aload_n 0, 1)), (26, (.iload 4, 2)), (28, (.iload_n 2, 1)), (29, (.invokevirtual 77, 3)), (32, (.ishl, 1)), (33, (.ior, 1)), (34, (.istore_n 3, 1)), (35, (.iinc 4 1, 3)), (38, (.goto (-33), 3)), (41, (.iload_n 3, 1))] = true := zDs 0 (by decide +kernel)
theorem d_Group_turnAll_0 : decode (zb m_Group_turnAll) 0 = .ok (.iconst 0, 1) := zdal_p dlA_Group_turnAll_49 (i := 0) rfl
theorem d_Group_turnAll_1 : decode (zb m_Group_turnAll) 1 = .ok (.istore_n 3, 1) := zdal_p dlA_Group_turnAll_49 (i := 1) rfl
theorem d_Group_turnAll_2 : decode (zb m_Group_turnAll) 2 = .ok (.iconst 0, 1) := zdal_p dlA_Group_turnAll_49 (i := 2) rfl
theorem d_Group_turnAll_3 : decode (zb m_Group_turnAll) 3 = .ok (.istore 4, 2) := zdal_p dlA_Group_turnAll_49 (i := 3) rfl
theorem d_Group_turnAll_5 : decode (zb m_Group_turnAll) 5 = .ok (.iload 4, 2) := zdal_p dlA_Group_turnAll_49 (i := 4) rfl
theorem d_Group_turnAll_7 : decode (zb m_Group_turnAll) 7 = .ok (.aload_n 0, 1) := zdal_p dlA_Group_turnAll_49 (i := 5) rfl
theorem d_Group_turnAll_8 : decode (zb m_Group_turnAll) 8 = .ok (.getfield 39, 3) := zdal_p dlA_Group_turnAll_49 (i := 6) rfl
theorem d_Group_turnAll_11 : decode (zb m_Group_turnAll) 11 = .ok (.if_icmp .ge 30, 3) := zdal_p dlA_Group_turnAll_49 (i := 7) rfl
theorem d_Group_turnAll_14 : decode (zb m_Group_turnAll) 14 = .ok (.iload_n 1, 1) := zdal_p dlA_Group_turnAll_49 (i := 8) rfl
theorem d_Group_turnAll_15 : decode (zb m_Group_turnAll) 15 = .ok (.iload 4, 2) := zdal_p dlA_Group_turnAll_49 (i := 9) rfl
theorem d_Group_turnAll_17 : decode (zb m_Group_turnAll) 17 = .ok (.invokestatic 73, 3) := zdal_p dlA_Group_turnAll_49 (i := 10) rfl
theorem d_Group_turnAll_20 : decode (zb m_Group_turnAll) 20 = .ok (.ifCond .eq 15, 3) := zdal_p dlA_Group_turnAll_49 (i := 11) rfl
theorem d_Group_turnAll_23 : decode (zb m_Group_turnAll) 23 = .ok (.iload_n 3, 1) := zdal_p dlA_Group_turnAll_49 (i := 12) rfl
theorem d_Group_turnAll_24 : decode (zb m_Group_turnAll) 24 = .ok (.iconst 1, 1) := zdal_p dlA_Group_turnAll_49 (i := 13) rfl
theorem d_Group_turnAll_25 : decode (zb m_Group_turnAll) 25 = .ok (.aload_n 0, 1) := zdal_p dlA_Group_turnAll_49 (i := 14) rfl
theorem d_Group_turnAll_26 : decode (zb m_Group_turnAll) 26 = .ok (.iload 4, 2) := zdal_p dlA_Group_turnAll_49 (i := 15) rfl
theorem d_Group_turnAll_28 : decode (zb m_Group_turnAll) 28 = .ok (.iload_n 2, 1) := zdal_p dlA_Group_turnAll_49 (i := 16) rfl
theorem d_Group_turnAll_29 : decode (zb m_Group_turnAll) 29 = .ok (.invokevirtual 77, 3) := zdal_p dlA_Group_turnAll_49 (i := 17) rfl
theorem d_Group_turnAll_32 : decode (zb m_Group_turnAll) 32 = .ok (.ishl, 1) := zdal_p dlA_Group_turnAll_49 (i := 18) rfl
theorem d_Group_turnAll_33 : decode (zb m_Group_turnAll) 33 = .ok (.ior, 1) := zdal_p dlA_Group_turnAll_49 (i := 19) rfl
theorem d_Group_turnAll_34 : decode (zb m_Group_turnAll) 34 = .ok (.istore_n 3, 1) := zdal_p dlA_Group_turnAll_49 (i := 20) rfl
theorem d_Group_turnAll_35 : decode (zb m_Group_turnAll) 35 = .ok (.iinc 4 1, 3) := zdal_p dlA_Group_turnAll_49 (i := 21) rfl
theorem d_Group_turnAll_38 : decode (zb m_Group_turnAll) 38 = .ok (.goto (-33), 3) := zdal_p dlA_Group_turnAll_49 (i := 22) rfl
theorem d_Group_turnAll_41 : decode (zb m_Group_turnAll) 41 = .ok (.iload_n 3, 1) := zdal_p dlA_Group_turnAll_49 (i := 23) rfl
theorem dlA_Group_turnAll_50 : zdal (zb m_Group_turnAll) [(42, (.ireturn, 1))] = true := zDs 42 (by decide +kernel)
theorem d_Group_turnAll_42 : decode (zb m_Group_turnAll) 42 = .ok (.ireturn, 1) := zdal_p dlA_Group_turnAll_50 (i := 0) rfl
theorem dlA_Group_turn_51 : zdal (zb m_Group_turn) [(0, (.aload_n 0, 1)), (1, (.getfield 23, 3)), (4, (.aload_n 0, 1)), (5, (.getfield 26, 3)), (8, (.iload_n 2, 1)), (9, (.invokevirtual 54, 3)), (12, (.bipush 24, 2)), (14, (.imul, 1)), (15, (.iload_n 1, 1)), (16, (.iadd, 1)), (17, (.invokevirtual 54, 3)), (20, (.istore_n 3, 1)), (21, (.aload_n 0, 1)), (22, (.getfield 23, 3)), (25, (.iload_n 3, 1)), (26, (.bipush 24, 2)), (28, (.imul, 1)), (29, (.iload_n 2, 1)), (30, (.iadd, 1)), (31, (.invokevirtual 54, 3)), (34, (.ireturn, 1))] = true := zDs 0 (by decide +kernel)
theorem d_Group_turn_0 : decode (zb m_Group_turn) 0 = .ok (.aload_n 0, 1) := zdal_p dlA_Group_turn_51 (i := 0) rfl
theorem d_Group_turn_1 : decode (zb m_Group_turn) 1 = .ok (.getfield 23, 3) := zdal_p dlA_Group_turn_51 (i := 1) rfl
theorem d_Group_turn_4 : decode (zb m_Group_turn) 4 = .ok (.aload_n 0, 1) := zdal_p dlA_Group_turn_51 (i := 2) rfl
theorem d_Group_turn_5 : decode (zb m_Group_turn) 5 = .ok (.getfield 26, 3) := zdal_p dlA_Group_turn_51 (i := 3) rfl
theorem d_Group_turn_8 : decode (zb m_Group_turn) 8 = .ok (.iload_n 2, 1) := zdal_p dlA_Group_turn_51 (i := 4) rfl
theorem d_Group_turn_9 : decode (zb m_Group_turn) 9 = .ok (.invokevirtual 54, 3) := zdal_p dlA_Group_turn_51 (i := 5) rfl
theorem d_Group_turn_12 : decode (zb m_Group_turn) 12 = .ok (.bipush 24, 2) := zdal_p dlA_Group_turn_51 (i := 6) rfl
theorem d_Group_turn_14 : decode (zb m_Group_turn) 14 = .ok (.imul, 1) := zdal_p dlA_Group_turn_51 (i := 7) rfl
theorem d_Group_turn_15 : decode (zb m_Group_turn) 15 = .ok (.iload_n 1, 1) := zdal_p dlA_Group_turn_51 (i := 8) rfl
theorem d_Group_turn_16 : decode (zb m_Group_turn) 16 = .ok (.iadd, 1) := zdal_p dlA_Group_turn_51 (i := 9) rfl
theorem d_Group_turn_17 : decode (zb m_Group_turn) 17 = .ok (.invokevirtual 54, 3) := zdal_p dlA_Group_turn_51 (i := 10) rfl
theorem d_Group_turn_20 : decode (zb m_Group_turn) 20 = .ok (.istore_n 3, 1) := zdal_p dlA_Group_turn_51 (i := 11) rfl
theorem d_Group_turn_21 : decode (zb m_Group_turn) 21 = .ok (.aload_n 0, 1) := zdal_p dlA_Group_turn_51 (i := 12) rfl
theorem d_Group_turn_22 : decode (zb m_Group_turn) 22 = .ok (.getfield 23, 3) := zdal_p dlA_Group_turn_51 (i := 13) rfl
theorem d_Group_turn_25 : decode (zb m_Group_turn) 25 = .ok (.iload_n 3, 1) := zdal_p dlA_Group_turn_51 (i := 14) rfl
theorem d_Group_turn_26 : decode (zb m_Group_turn) 26 = .ok (.bipush 24, 2) := zdal_p dlA_Group_turn_51 (i := 15) rfl
theorem d_Group_turn_28 : decode (zb m_Group_turn) 28 = .ok (.imul, 1) := zdal_p dlA_Group_turn_51 (i := 16) rfl
theorem d_Group_turn_29 : decode (zb m_Group_turn) 29 = .ok (.iload_n 2, 1) := zdal_p dlA_Group_turn_51 (i := 17) rfl
theorem d_Group_turn_30 : decode (zb m_Group_turn) 30 = .ok (.iadd, 1) := zdal_p dlA_Group_turn_51 (i := 18) rfl
theorem d_Group_turn_31 : decode (zb m_Group_turn) 31 = .ok (.invokevirtual 54, 3) := zdal_p dlA_Group_turn_51 (i := 19) rfl
theorem d_Group_turn_34 : decode (zb m_Group_turn) 34 = .ok (.ireturn, 1) := zdal_p dlA_Group_turn_51 (i := 20) rfl
theorem dlA_Sorts_fillTable_52 : zdal (zb m_Sorts_fillTable) [(0, (.iconst 0, 1)), (1, (.istore_n 1, 1)), (2, (.iload_n 1, 1)), (3, (.aload_n 0, 1)), (4, (.getfield 83, 3)), (7, (.if_icmp .ge 136, 3)), (10, (.iconst 0, 1)), (11, (.istore_n 2, 1)), (12, (.iload_n 2, 1)), (13, (.aload_n 0, 1)), (14, (.getfield 83, 3)), (17, (.if_icmp .ge 23, 3)), (20, (.aload_n 0, 1)), (21, (.getfield 29, 3)), (24, (.iload_n 2, 1)), (25, (.bipush 27, 2)), (27, (.imul, 1)), (28, (.iload_n 1, 1)), (29, (.iadd, 1)), (30, (.iconst 0, 1)), (31, (.invokevirtual 40, 3)), (34, (.iinc 2 1, 3)), (37, (.goto (-25), 3)), (40, (.iconst 0, 1))] = true := zDs 0 (by decide +kernel)
theorem d_Sorts_fillTable_0 : decode (zb m_Sorts_fillTable) 0 = .ok (.iconst 0, 1) := zdal_p dlA_Sorts_fillTable_52 (i := 0) rfl
theorem d_Sorts_fillTable_1 : decode (zb m_Sorts_fillTable) 1 = .ok (.istore_n 1, 1) := zdal_p dlA_Sorts_fillTable_52 (i := 1) rfl
theorem d_Sorts_fillTable_2 : decode (zb m_Sorts_fillTable) 2 = .ok (.iload_n 1, 1) := zdal_p dlA_Sorts_fillTable_52 (i := 2) rfl
theorem d_Sorts_fillTable_3 : decode (zb m_Sorts_fillTable) 3 = .ok (.aload_n 0, 1) := zdal_p dlA_Sorts_fillTable_52 (i := 3) rfl
theorem d_Sorts_fillTable_4 : decode (zb m_Sorts_fillTable) 4 = .ok (.getfield 83, 3) := zdal_p dlA_Sorts_fillTable_52 (i := 4) rfl
theorem d_Sorts_fillTable_7 : decode (zb m_Sorts_fillTable) 7 = .ok (.if_icmp .ge 136, 3) := zdal_p dlA_Sorts_fillTable_52 (i := 5) rfl
theorem d_Sorts_fillTable_10 : decode (zb m_Sorts_fillTable) 10 = .ok (.iconst 0, 1) := zdal_p dlA_Sorts_fillTable_52 (i := 6) rfl
theorem d_Sorts_fillTable_11 : decode (zb m_Sorts_fillTable) 11 = .ok (.istore_n 2, 1) := zdal_p dlA_Sorts_fillTable_52 (i := 7) rfl
theorem d_Sorts_fillTable_12 : decode (zb m_Sorts_fillTable) 12 = .ok (.iload_n 2, 1) := zdal_p dlA_Sorts_fillTable_52 (i := 8) rfl
theorem d_Sorts_fillTable_13 : decode (zb m_Sorts_fillTable) 13 = .ok (.aload_n 0, 1) := zdal_p dlA_Sorts_fillTable_52 (i := 9) rfl
theorem d_Sorts_fillTable_14 : decode (zb m_Sorts_fillTable) 14 = .ok (.getfield 83, 3) := zdal_p dlA_Sorts_fillTable_52 (i := 10) rfl
theorem d_Sorts_fillTable_17 : decode (zb m_Sorts_fillTable) 17 = .ok (.if_icmp .ge 23, 3) := zdal_p dlA_Sorts_fillTable_52 (i := 11) rfl
theorem d_Sorts_fillTable_20 : decode (zb m_Sorts_fillTable) 20 = .ok (.aload_n 0, 1) := zdal_p dlA_Sorts_fillTable_52 (i := 12) rfl
theorem d_Sorts_fillTable_21 : decode (zb m_Sorts_fillTable) 21 = .ok (.getfield 29, 3) := zdal_p dlA_Sorts_fillTable_52 (i := 13) rfl
theorem d_Sorts_fillTable_24 : decode (zb m_Sorts_fillTable) 24 = .ok (.iload_n 2, 1) := zdal_p dlA_Sorts_fillTable_52 (i := 14) rfl
theorem d_Sorts_fillTable_25 : decode (zb m_Sorts_fillTable) 25 = .ok (.bipush 27, 2) := zdal_p dlA_Sorts_fillTable_52 (i := 15) rfl
theorem d_Sorts_fillTable_27 : decode (zb m_Sorts_fillTable) 27 = .ok (.imul, 1) := zdal_p dlA_Sorts_fillTable_52 (i := 16) rfl
theorem d_Sorts_fillTable_28 : decode (zb m_Sorts_fillTable) 28 = .ok (.iload_n 1, 1) := zdal_p dlA_Sorts_fillTable_52 (i := 17) rfl
theorem d_Sorts_fillTable_29 : decode (zb m_Sorts_fillTable) 29 = .ok (.iadd, 1) := zdal_p dlA_Sorts_fillTable_52 (i := 18) rfl
theorem d_Sorts_fillTable_30 : decode (zb m_Sorts_fillTable) 30 = .ok (.iconst 0, 1) := zdal_p dlA_Sorts_fillTable_52 (i := 19) rfl
theorem d_Sorts_fillTable_31 : decode (zb m_Sorts_fillTable) 31 = .ok (.invokevirtual 40, 3) := zdal_p dlA_Sorts_fillTable_52 (i := 20) rfl
theorem d_Sorts_fillTable_34 : decode (zb m_Sorts_fillTable) 34 = .ok (.iinc 2 1, 3) := zdal_p dlA_Sorts_fillTable_52 (i := 21) rfl
theorem d_Sorts_fillTable_37 : decode (zb m_Sorts_fillTable) 37 = .ok (.goto (-25), 3) := zdal_p dlA_Sorts_fillTable_52 (i := 22) rfl
theorem d_Sorts_fillTable_40 : decode (zb m_Sorts_fillTable) 40 = .ok (.iconst 0, 1) := zdal_p dlA_Sorts_fillTable_52 (i := 23) rfl
theorem dlA_Sorts_fillTable_53 : zdal (zb m_Sorts_fillTable) [(41, (.istore_n 2, 1)), (42, (.iload_n 2, 1)), (43, (.aload_n 0, 1)), (44, (.getfield 32, 3)), (47, (.getfield 44, 3)), (50, (.if_icmp .ge 30, 3)), (53, (.aload_n 0, 1)), (54, (.aload_n 0, 1)), (55, (.getfield 32, 3)), (58, (.aload_n 0, 1)), (59, (.getfield 26, 3)), (62, (.iload_n 1, 1)), (63, (.invokevirtual 49, 3)), (66, (.iload_n 2, 1)), (67, (.invokevirtual 86, 3)), (70, (.iload_n 1, 1)), (71, (.invokevirtual 90, 3)), (74, (.iinc 2 1, 3)), (77, (.goto (-35), 3)), (80, (.iconst 0, 1)), (81, (.istore_n 2, 1)), (82, (.iload_n 2, 1)), (83, (.aload_n 0, 1)), (84, (.getfield 83, 3))] = true := zDs 41 (by decide +kernel)
theorem d_Sorts_fillTable_41 : decode (zb m_Sorts_fillTable) 41 = .ok (.istore_n 2, 1) := zdal_p dlA_Sorts_fillTable_53 (i := 0) rfl
theorem d_Sorts_fillTable_42 : decode (zb m_Sorts_fillTable) 42 = .ok (.iload_n 2, 1) := zdal_p dlA_Sorts_fillTable_53 (i := 1) rfl
theorem d_Sorts_fillTable_43 : decode (zb m_Sorts_fillTable) 43 = .ok (.aload_n 0, 1) := zdal_p dlA_Sorts_fillTable_53 (i := 2) rfl
theorem d_Sorts_fillTable_44 : decode (zb m_Sorts_fillTable) 44 = .ok (.getfield 32, 3) := zdal_p dlA_Sorts_fillTable_53 (i := 3) rfl
theorem d_Sorts_fillTable_47 : decode (zb m_Sorts_fillTable) 47 = .ok (.getfield 44, 3) := zdal_p dlA_Sorts_fillTable_53 (i := 4) rfl
theorem d_Sorts_fillTable_50 : decode (zb m_Sorts_fillTable) 50 = .ok (.if_icmp .ge 30, 3) := zdal_p dlA_Sorts_fillTable_53 (i := 5) rfl
theorem d_Sorts_fillTable_53 : decode (zb m_Sorts_fillTable) 53 = .ok (.aload_n 0, 1) := zdal_p dlA_Sorts_fillTable_53 (i := 6) rfl
theorem d_Sorts_fillTable_54 : decode (zb m_Sorts_fillTable) 54 = .ok (.aload_n 0, 1) := zdal_p dlA_Sorts_fillTable_53 (i := 7) rfl
theorem d_Sorts_fillTable_55 : decode (zb m_Sorts_fillTable) 55 = .ok (.getfield 32, 3) := zdal_p dlA_Sorts_fillTable_53 (i := 8) rfl
theorem d_Sorts_fillTable_58 : decode (zb m_Sorts_fillTable) 58 = .ok (.aload_n 0, 1) := zdal_p dlA_Sorts_fillTable_53 (i := 9) rfl
theorem d_Sorts_fillTable_59 : decode (zb m_Sorts_fillTable) 59 = .ok (.getfield 26, 3) := zdal_p dlA_Sorts_fillTable_53 (i := 10) rfl
theorem d_Sorts_fillTable_62 : decode (zb m_Sorts_fillTable) 62 = .ok (.iload_n 1, 1) := zdal_p dlA_Sorts_fillTable_53 (i := 11) rfl
theorem d_Sorts_fillTable_63 : decode (zb m_Sorts_fillTable) 63 = .ok (.invokevirtual 49, 3) := zdal_p dlA_Sorts_fillTable_53 (i := 12) rfl
theorem d_Sorts_fillTable_66 : decode (zb m_Sorts_fillTable) 66 = .ok (.iload_n 2, 1) := zdal_p dlA_Sorts_fillTable_53 (i := 13) rfl
theorem d_Sorts_fillTable_67 : decode (zb m_Sorts_fillTable) 67 = .ok (.invokevirtual 86, 3) := zdal_p dlA_Sorts_fillTable_53 (i := 14) rfl
theorem d_Sorts_fillTable_70 : decode (zb m_Sorts_fillTable) 70 = .ok (.iload_n 1, 1) := zdal_p dlA_Sorts_fillTable_53 (i := 15) rfl
theorem d_Sorts_fillTable_71 : decode (zb m_Sorts_fillTable) 71 = .ok (.invokevirtual 90, 3) := zdal_p dlA_Sorts_fillTable_53 (i := 16) rfl
theorem d_Sorts_fillTable_74 : decode (zb m_Sorts_fillTable) 74 = .ok (.iinc 2 1, 3) := zdal_p dlA_Sorts_fillTable_53 (i := 17) rfl
theorem d_Sorts_fillTable_77 : decode (zb m_Sorts_fillTable) 77 = .ok (.goto (-35), 3) := zdal_p dlA_Sorts_fillTable_53 (i := 18) rfl
theorem d_Sorts_fillTable_80 : decode (zb m_Sorts_fillTable) 80 = .ok (.iconst 0, 1) := zdal_p dlA_Sorts_fillTable_53 (i := 19) rfl
theorem d_Sorts_fillTable_81 : decode (zb m_Sorts_fillTable) 81 = .ok (.istore_n 2, 1) := zdal_p dlA_Sorts_fillTable_53 (i := 20) rfl
theorem d_Sorts_fillTable_82 : decode (zb m_Sorts_fillTable) 82 = .ok (.iload_n 2, 1) := zdal_p dlA_Sorts_fillTable_53 (i := 21) rfl
theorem d_Sorts_fillTable_83 : decode (zb m_Sorts_fillTable) 83 = .ok (.aload_n 0, 1) := zdal_p dlA_Sorts_fillTable_53 (i := 22) rfl
theorem d_Sorts_fillTable_84 : decode (zb m_Sorts_fillTable) 84 = .ok (.getfield 83, 3) := zdal_p dlA_Sorts_fillTable_53 (i := 23) rfl
theorem dlA_Sorts_fillTable_54 : zdal (zb m_Sorts_fillTable) [(87, (.if_icmp .ge 50, 3)), (90, (.aload_n 0, 1)), (91, (.getfield 26, 3)), (94, (.iload_n 2, 1)), (95, (.invokevirtual 49, 3)), (98, (.invokestatic 78, 3)), (101, (.istore_n 3, 1)), (102, (.aload_n 0, 1)), (103, (.getfield 29, 3)), (106, (.iload_n 2, 1)), (107, (.bipush 27, 2)), (109, (.imul, 1)), (110, (.iload_n 1, 1)), (111, (.iadd, 1)), (112, (.iload_n 3, 1)), (113, (.ifCond .le 14, 3)), (116, (.aload_n 0, 1)), (117, (.iload_n 2, 1)), (118, (.iload_n 1, 1)), (119, (.invokevirtual 93, 3)), (122, (.iload_n 3, 1)), (123, (.idiv, 1)), (124, (.goto 4, 3)), (127, (.iconst 0, 1))] = true := zDs 87 (by decide +kernel)
theorem d_Sorts_fillTable_87 : decode (zb m_Sorts_fillTable) 87 = .ok (.if_icmp .ge 50, 3) := zdal_p dlA_Sorts_fillTable_54 (i := 0) rfl
theorem d_Sorts_fillTable_90 : decode (zb m_Sorts_fillTable) 90 = .ok (.aload_n 0, 1) := zdal_p dlA_Sorts_fillTable_54 (i := 1) rfl
theorem d_Sorts_fillTable_91 : decode (zb m_Sorts_fillTable) 91 = .ok (.getfield 26, 3) := zdal_p dlA_Sorts_fillTable_54 (i := 2) rfl
theorem d_Sorts_fillTable_94 : decode (zb m_Sorts_fillTable) 94 = .ok (.iload_n 2, 1) := zdal_p dlA_Sorts_fillTable_54 (i := 3) rfl
theorem d_Sorts_fillTable_95 : decode (zb m_Sorts_fillTable) 95 = .ok (.invokevirtual 49, 3) := zdal_p dlA_Sorts_fillTable_54 (i := 4) rfl
theorem d_Sorts_fillTable_98 : decode (zb m_Sorts_fillTable) 98 = .ok (.invokestatic 78, 3) := zdal_p dlA_Sorts_fillTable_54 (i := 5) rfl
theorem d_Sorts_fillTable_101 : decode (zb m_Sorts_fillTable) 101 = .ok (.istore_n 3, 1) := zdal_p dlA_Sorts_fillTable_54 (i := 6) rfl
theorem d_Sorts_fillTable_102 : decode (zb m_Sorts_fillTable) 102 = .ok (.aload_n 0, 1) := zdal_p dlA_Sorts_fillTable_54 (i := 7) rfl
theorem d_Sorts_fillTable_103 : decode (zb m_Sorts_fillTable) 103 = .ok (.getfield 29, 3) := zdal_p dlA_Sorts_fillTable_54 (i := 8) rfl
theorem d_Sorts_fillTable_106 : decode (zb m_Sorts_fillTable) 106 = .ok (.iload_n 2, 1) := zdal_p dlA_Sorts_fillTable_54 (i := 9) rfl
theorem d_Sorts_fillTable_107 : decode (zb m_Sorts_fillTable) 107 = .ok (.bipush 27, 2) := zdal_p dlA_Sorts_fillTable_54 (i := 10) rfl
theorem d_Sorts_fillTable_109 : decode (zb m_Sorts_fillTable) 109 = .ok (.imul, 1) := zdal_p dlA_Sorts_fillTable_54 (i := 11) rfl
theorem d_Sorts_fillTable_110 : decode (zb m_Sorts_fillTable) 110 = .ok (.iload_n 1, 1) := zdal_p dlA_Sorts_fillTable_54 (i := 12) rfl
theorem d_Sorts_fillTable_111 : decode (zb m_Sorts_fillTable) 111 = .ok (.iadd, 1) := zdal_p dlA_Sorts_fillTable_54 (i := 13) rfl
theorem d_Sorts_fillTable_112 : decode (zb m_Sorts_fillTable) 112 = .ok (.iload_n 3, 1) := zdal_p dlA_Sorts_fillTable_54 (i := 14) rfl
theorem d_Sorts_fillTable_113 : decode (zb m_Sorts_fillTable) 113 = .ok (.ifCond .le 14, 3) := zdal_p dlA_Sorts_fillTable_54 (i := 15) rfl
theorem d_Sorts_fillTable_116 : decode (zb m_Sorts_fillTable) 116 = .ok (.aload_n 0, 1) := zdal_p dlA_Sorts_fillTable_54 (i := 16) rfl
theorem d_Sorts_fillTable_117 : decode (zb m_Sorts_fillTable) 117 = .ok (.iload_n 2, 1) := zdal_p dlA_Sorts_fillTable_54 (i := 17) rfl
theorem d_Sorts_fillTable_118 : decode (zb m_Sorts_fillTable) 118 = .ok (.iload_n 1, 1) := zdal_p dlA_Sorts_fillTable_54 (i := 18) rfl
theorem d_Sorts_fillTable_119 : decode (zb m_Sorts_fillTable) 119 = .ok (.invokevirtual 93, 3) := zdal_p dlA_Sorts_fillTable_54 (i := 19) rfl
theorem d_Sorts_fillTable_122 : decode (zb m_Sorts_fillTable) 122 = .ok (.iload_n 3, 1) := zdal_p dlA_Sorts_fillTable_54 (i := 20) rfl
theorem d_Sorts_fillTable_123 : decode (zb m_Sorts_fillTable) 123 = .ok (.idiv, 1) := zdal_p dlA_Sorts_fillTable_54 (i := 21) rfl
theorem d_Sorts_fillTable_124 : decode (zb m_Sorts_fillTable) 124 = .ok (.goto 4, 3) := zdal_p dlA_Sorts_fillTable_54 (i := 22) rfl
theorem dlA_Sorts_fillTable_55 : zdal (zb m_Sorts_fillTable) [(128, (.invokevirtual 40, 3)), (131, (.iinc 2 1, 3)), (134, (.goto (-52), 3)), (137, (.iinc 1 1, 3)), (140, (.goto (-138), 3)), (143, (.return_, 1))] = true := zDs 128 (by decide +kernel)
theorem d_Sorts_fillTable_128 : decode (zb m_Sorts_fillTable) 128 = .ok (.invokevirtual 40, 3) := zdal_p dlA_Sorts_fillTable_55 (i := 0) rfl
theorem d_Sorts_fillTable_131 : decode (zb m_Sorts_fillTable) 131 = .ok (.iinc 2 1, 3) := zdal_p dlA_Sorts_fillTable_55 (i := 1) rfl
theorem d_Sorts_fillTable_134 : decode (zb m_Sorts_fillTable) 134 = .ok (.goto (-52), 3) := zdal_p dlA_Sorts_fillTable_55 (i := 2) rfl
theorem d_Sorts_fillTable_137 : decode (zb m_Sorts_fillTable) 137 = .ok (.iinc 1 1, 3) := zdal_p dlA_Sorts_fillTable_55 (i := 3) rfl
theorem d_Sorts_fillTable_140 : decode (zb m_Sorts_fillTable) 140 = .ok (.goto (-138), 3) := zdal_p dlA_Sorts_fillTable_55 (i := 4) rfl
theorem d_Sorts_fillTable_143 : decode (zb m_Sorts_fillTable) 143 = .ok (.return_, 1) := zdal_p dlA_Sorts_fillTable_55 (i := 5) rfl
theorem dlA_Sorts_countTurned_56 : zdal (zb m_Sorts_countTurned) [(0, (.iconst 0, 1)), (1, (.istore_n 3, 1)), (2, (.iload_n 3, 1)), (3, (.aload_n 0, 1)), (4, (.getfield 83, 3)), (7, (.if_icmp .ge 45, 3)), (10, (.iload_n 1, 1)), (11, (.aload_n 0, 1)), (12, (.getfield 26, 3)), (15, (.iload_n 3, 1)), (16, (.invokevirtual 49, 3)), (19, (.invokestatic 96, 3)), (22, (.ifCond .eq 24, 3)), (25, (.aload_n 0, 1)), (26, (.getfield 29, 3)), (29, (.iload_n 3, 1)), (30, (.bipush 27, 2)), (32, (.imul, 1)), (33, (.iload_n 2, 1)), (34, (.iadd, 1)), (35, (.aload_n 0, 1)), (36, (.iload_n 3, 1)), (37, (.iload_n 2, 1)), (38, (.invokevirtual 93, 3))] = true := zDs 0 (by decide +kernel)
theorem d_Sorts_countTurned_0 : decode (zb m_Sorts_countTurned) 0 = .ok (.iconst 0, 1) := zdal_p dlA_Sorts_countTurned_56 (i := 0) rfl
theorem d_Sorts_countTurned_1 : decode (zb m_Sorts_countTurned) 1 = .ok (.istore_n 3, 1) := zdal_p dlA_Sorts_countTurned_56 (i := 1) rfl
theorem d_Sorts_countTurned_2 : decode (zb m_Sorts_countTurned) 2 = .ok (.iload_n 3, 1) := zdal_p dlA_Sorts_countTurned_56 (i := 2) rfl
theorem d_Sorts_countTurned_3 : decode (zb m_Sorts_countTurned) 3 = .ok (.aload_n 0, 1) := zdal_p dlA_Sorts_countTurned_56 (i := 3) rfl
theorem d_Sorts_countTurned_4 : decode (zb m_Sorts_countTurned) 4 = .ok (.getfield 83, 3) := zdal_p dlA_Sorts_countTurned_56 (i := 4) rfl
theorem d_Sorts_countTurned_7 : decode (zb m_Sorts_countTurned) 7 = .ok (.if_icmp .ge 45, 3) := zdal_p dlA_Sorts_countTurned_56 (i := 5) rfl
theorem d_Sorts_countTurned_10 : decode (zb m_Sorts_countTurned) 10 = .ok (.iload_n 1, 1) := zdal_p dlA_Sorts_countTurned_56 (i := 6) rfl
theorem d_Sorts_countTurned_11 : decode (zb m_Sorts_countTurned) 11 = .ok (.aload_n 0, 1) := zdal_p dlA_Sorts_countTurned_56 (i := 7) rfl
theorem d_Sorts_countTurned_12 : decode (zb m_Sorts_countTurned) 12 = .ok (.getfield 26, 3) := zdal_p dlA_Sorts_countTurned_56 (i := 8) rfl
theorem d_Sorts_countTurned_15 : decode (zb m_Sorts_countTurned) 15 = .ok (.iload_n 3, 1) := zdal_p dlA_Sorts_countTurned_56 (i := 9) rfl
theorem d_Sorts_countTurned_16 : decode (zb m_Sorts_countTurned) 16 = .ok (.invokevirtual 49, 3) := zdal_p dlA_Sorts_countTurned_56 (i := 10) rfl
theorem d_Sorts_countTurned_19 : decode (zb m_Sorts_countTurned) 19 = .ok (.invokestatic 96, 3) := zdal_p dlA_Sorts_countTurned_56 (i := 11) rfl
theorem d_Sorts_countTurned_22 : decode (zb m_Sorts_countTurned) 22 = .ok (.ifCond .eq 24, 3) := zdal_p dlA_Sorts_countTurned_56 (i := 12) rfl
theorem d_Sorts_countTurned_25 : decode (zb m_Sorts_countTurned) 25 = .ok (.aload_n 0, 1) := zdal_p dlA_Sorts_countTurned_56 (i := 13) rfl
theorem d_Sorts_countTurned_26 : decode (zb m_Sorts_countTurned) 26 = .ok (.getfield 29, 3) := zdal_p dlA_Sorts_countTurned_56 (i := 14) rfl
theorem d_Sorts_countTurned_29 : decode (zb m_Sorts_countTurned) 29 = .ok (.iload_n 3, 1) := zdal_p dlA_Sorts_countTurned_56 (i := 15) rfl
theorem d_Sorts_countTurned_30 : decode (zb m_Sorts_countTurned) 30 = .ok (.bipush 27, 2) := zdal_p dlA_Sorts_countTurned_56 (i := 16) rfl
theorem d_Sorts_countTurned_32 : decode (zb m_Sorts_countTurned) 32 = .ok (.imul, 1) := zdal_p dlA_Sorts_countTurned_56 (i := 17) rfl
theorem d_Sorts_countTurned_33 : decode (zb m_Sorts_countTurned) 33 = .ok (.iload_n 2, 1) := zdal_p dlA_Sorts_countTurned_56 (i := 18) rfl
theorem d_Sorts_countTurned_34 : decode (zb m_Sorts_countTurned) 34 = .ok (.iadd, 1) := zdal_p dlA_Sorts_countTurned_56 (i := 19) rfl
theorem d_Sorts_countTurned_35 : decode (zb m_Sorts_countTurned) 35 = .ok (.aload_n 0, 1) := zdal_p dlA_Sorts_countTurned_56 (i := 20) rfl
theorem d_Sorts_countTurned_36 : decode (zb m_Sorts_countTurned) 36 = .ok (.iload_n 3, 1) := zdal_p dlA_Sorts_countTurned_56 (i := 21) rfl
theorem d_Sorts_countTurned_37 : decode (zb m_Sorts_countTurned) 37 = .ok (.iload_n 2, 1) := zdal_p dlA_Sorts_countTurned_56 (i := 22) rfl
theorem d_Sorts_countTurned_38 : decode (zb m_Sorts_countTurned) 38 = .ok (.invokevirtual 93, 3) := zdal_p dlA_Sorts_countTurned_56 (i := 23) rfl
theorem dlA_Sorts_countTurned_57 : zdal (zb m_Sorts_countTurned) [(41, (.iconst 1, 1)), (42, (.iadd, 1)), (43, (.invokevirtual 40, 3)), (46, (.iinc 3 1, 3)), (49, (.goto (-47), 3)), (52, (.return_, 1))] = true := zDs 41 (by decide +kernel)
theorem d_Sorts_countTurned_41 : decode (zb m_Sorts_countTurned) 41 = .ok (.iconst 1, 1) := zdal_p dlA_Sorts_countTurned_57 (i := 0) rfl
theorem d_Sorts_countTurned_42 : decode (zb m_Sorts_countTurned) 42 = .ok (.iadd, 1) := zdal_p dlA_Sorts_countTurned_57 (i := 1) rfl
theorem d_Sorts_countTurned_43 : decode (zb m_Sorts_countTurned) 43 = .ok (.invokevirtual 40, 3) := zdal_p dlA_Sorts_countTurned_57 (i := 2) rfl
theorem d_Sorts_countTurned_46 : decode (zb m_Sorts_countTurned) 46 = .ok (.iinc 3 1, 3) := zdal_p dlA_Sorts_countTurned_57 (i := 3) rfl
theorem d_Sorts_countTurned_49 : decode (zb m_Sorts_countTurned) 49 = .ok (.goto (-47), 3) := zdal_p dlA_Sorts_countTurned_57 (i := 4) rfl
theorem d_Sorts_countTurned_52 : decode (zb m_Sorts_countTurned) 52 = .ok (.return_, 1) := zdal_p dlA_Sorts_countTurned_57 (i := 5) rfl
theorem dlA_T_isPart_58 : zdal (zb m_T_isPart) [(0, (.iload_n 0, 1)), (1, (.iload_n 1, 1)), (2, (.iconst (-1), 1)), (3, (.ixor, 1)), (4, (.iand, 1)), (5, (.ifCond .ne 7, 3)), (8, (.iconst 1, 1)), (9, (.goto 4, 3)), (12, (.iconst 0, 1)), (13, (.ireturn, 1))] = true := zDs 0 (by decide +kernel)
theorem d_T_isPart_0 : decode (zb m_T_isPart) 0 = .ok (.iload_n 0, 1) := zdal_p dlA_T_isPart_58 (i := 0) rfl
theorem d_T_isPart_1 : decode (zb m_T_isPart) 1 = .ok (.iload_n 1, 1) := zdal_p dlA_T_isPart_58 (i := 1) rfl
theorem d_T_isPart_2 : decode (zb m_T_isPart) 2 = .ok (.iconst (-1), 1) := zdal_p dlA_T_isPart_58 (i := 2) rfl
theorem d_T_isPart_3 : decode (zb m_T_isPart) 3 = .ok (.ixor, 1) := zdal_p dlA_T_isPart_58 (i := 3) rfl
theorem d_T_isPart_4 : decode (zb m_T_isPart) 4 = .ok (.iand, 1) := zdal_p dlA_T_isPart_58 (i := 4) rfl
theorem d_T_isPart_5 : decode (zb m_T_isPart) 5 = .ok (.ifCond .ne 7, 3) := zdal_p dlA_T_isPart_58 (i := 5) rfl
theorem d_T_isPart_8 : decode (zb m_T_isPart) 8 = .ok (.iconst 1, 1) := zdal_p dlA_T_isPart_58 (i := 6) rfl
theorem d_T_isPart_9 : decode (zb m_T_isPart) 9 = .ok (.goto 4, 3) := zdal_p dlA_T_isPart_58 (i := 7) rfl
theorem d_T_isPart_12 : decode (zb m_T_isPart) 12 = .ok (.iconst 0, 1) := zdal_p dlA_T_isPart_58 (i := 8) rfl
theorem d_T_isPart_13 : decode (zb m_T_isPart) 13 = .ok (.ireturn, 1) := zdal_p dlA_T_isPart_58 (i := 9) rfl
theorem dlA_Sorts_markAt_59 : zdal (zb m_Sorts_markAt) [(0, (.aload_n 0, 1)), (1, (.getfield 29, 3)), (4, (.iload_n 1, 1)), (5, (.bipush 27, 2)), (7, (.imul, 1)), (8, (.iload_n 2, 1)), (9, (.iadd, 1)), (10, (.invokevirtual 49, 3)), (13, (.ireturn, 1))] = true := zDs 0 (by decide +kernel)
theorem d_Sorts_markAt_0 : decode (zb m_Sorts_markAt) 0 = .ok (.aload_n 0, 1) := zdal_p dlA_Sorts_markAt_59 (i := 0) rfl
theorem d_Sorts_markAt_1 : decode (zb m_Sorts_markAt) 1 = .ok (.getfield 29, 3) := zdal_p dlA_Sorts_markAt_59 (i := 1) rfl
theorem d_Sorts_markAt_4 : decode (zb m_Sorts_markAt) 4 = .ok (.iload_n 1, 1) := zdal_p dlA_Sorts_markAt_59 (i := 2) rfl
theorem d_Sorts_markAt_5 : decode (zb m_Sorts_markAt) 5 = .ok (.bipush 27, 2) := zdal_p dlA_Sorts_markAt_59 (i := 3) rfl
theorem d_Sorts_markAt_7 : decode (zb m_Sorts_markAt) 7 = .ok (.imul, 1) := zdal_p dlA_Sorts_markAt_59 (i := 4) rfl
theorem d_Sorts_markAt_8 : decode (zb m_Sorts_markAt) 8 = .ok (.iload_n 2, 1) := zdal_p dlA_Sorts_markAt_59 (i := 5) rfl
theorem d_Sorts_markAt_9 : decode (zb m_Sorts_markAt) 9 = .ok (.iadd, 1) := zdal_p dlA_Sorts_markAt_59 (i := 6) rfl
theorem d_Sorts_markAt_10 : decode (zb m_Sorts_markAt) 10 = .ok (.invokevirtual 49, 3) := zdal_p dlA_Sorts_markAt_59 (i := 7) rfl
theorem d_Sorts_markAt_13 : decode (zb m_Sorts_markAt) 13 = .ok (.ireturn, 1) := zdal_p dlA_Sorts_markAt_59 (i := 8) rfl
theorem dlA_Units_forget_60 : zdal (zb m_Units_forget) [(0, (.aload_n 0, 1)), (1, (.iconst 0, 1)), (2, (.putfield 27, 3)), (5, (.return_, 1))] = true := zDs 0 (by decide +kernel)
theorem d_Units_forget_0 : decode (zb m_Units_forget) 0 = .ok (.aload_n 0, 1) := zdal_p dlA_Units_forget_60 (i := 0) rfl
theorem d_Units_forget_1 : decode (zb m_Units_forget) 1 = .ok (.iconst 0, 1) := zdal_p dlA_Units_forget_60 (i := 1) rfl
theorem d_Units_forget_2 : decode (zb m_Units_forget) 2 = .ok (.putfield 27, 3) := zdal_p dlA_Units_forget_60 (i := 2) rfl
theorem d_Units_forget_5 : decode (zb m_Units_forget) 5 = .ok (.return_, 1) := zdal_p dlA_Units_forget_60 (i := 3) rfl
theorem dlA_Sums_putSingle_61 : zdal (zb m_Sums_putSingle) [(0, (.iconst 0, 1)), (1, (.istore 5, 2)), (3, (.iload 5, 2)), (5, (.aload_n 0, 1)), (6, (.getfield 23, 3)), (9, (.getfield 35, 3)), (12, (.if_icmp .ge 34, 3)), (15, (.aload_n 0, 1)), (16, (.getfield 16, 3)), (19, (.iload_n 1, 1)), (20, (.bipush 27, 2)), (22, (.imul, 1)), (23, (.iload 5, 2)), (25, (.iadd, 1)), (26, (.iload 5, 2)), (28, (.iload_n 2, 1)), (29, (.if_icmp .ne 7, 3)), (32, (.lload_n 3, 1)), (33, (.goto 4, 3)), (36, (.lconst 0, 1)), (37, (.invokevirtual 31, 3)), (40, (.iinc 5 1, 3)), (43, (.goto (-40), 3)), (46, (.return_, 1))] = true := zDs 0 (by decide +kernel)
theorem d_Sums_putSingle_0 : decode (zb m_Sums_putSingle) 0 = .ok (.iconst 0, 1) := zdal_p dlA_Sums_putSingle_61 (i := 0) rfl
theorem d_Sums_putSingle_1 : decode (zb m_Sums_putSingle) 1 = .ok (.istore 5, 2) := zdal_p dlA_Sums_putSingle_61 (i := 1) rfl
theorem d_Sums_putSingle_3 : decode (zb m_Sums_putSingle) 3 = .ok (.iload 5, 2) := zdal_p dlA_Sums_putSingle_61 (i := 2) rfl
theorem d_Sums_putSingle_5 : decode (zb m_Sums_putSingle) 5 = .ok (.aload_n 0, 1) := zdal_p dlA_Sums_putSingle_61 (i := 3) rfl
theorem d_Sums_putSingle_6 : decode (zb m_Sums_putSingle) 6 = .ok (.getfield 23, 3) := zdal_p dlA_Sums_putSingle_61 (i := 4) rfl
theorem d_Sums_putSingle_9 : decode (zb m_Sums_putSingle) 9 = .ok (.getfield 35, 3) := zdal_p dlA_Sums_putSingle_61 (i := 5) rfl
theorem d_Sums_putSingle_12 : decode (zb m_Sums_putSingle) 12 = .ok (.if_icmp .ge 34, 3) := zdal_p dlA_Sums_putSingle_61 (i := 6) rfl
theorem d_Sums_putSingle_15 : decode (zb m_Sums_putSingle) 15 = .ok (.aload_n 0, 1) := zdal_p dlA_Sums_putSingle_61 (i := 7) rfl
theorem d_Sums_putSingle_16 : decode (zb m_Sums_putSingle) 16 = .ok (.getfield 16, 3) := zdal_p dlA_Sums_putSingle_61 (i := 8) rfl
theorem d_Sums_putSingle_19 : decode (zb m_Sums_putSingle) 19 = .ok (.iload_n 1, 1) := zdal_p dlA_Sums_putSingle_61 (i := 9) rfl
theorem d_Sums_putSingle_20 : decode (zb m_Sums_putSingle) 20 = .ok (.bipush 27, 2) := zdal_p dlA_Sums_putSingle_61 (i := 10) rfl
theorem d_Sums_putSingle_22 : decode (zb m_Sums_putSingle) 22 = .ok (.imul, 1) := zdal_p dlA_Sums_putSingle_61 (i := 11) rfl
theorem d_Sums_putSingle_23 : decode (zb m_Sums_putSingle) 23 = .ok (.iload 5, 2) := zdal_p dlA_Sums_putSingle_61 (i := 12) rfl
theorem d_Sums_putSingle_25 : decode (zb m_Sums_putSingle) 25 = .ok (.iadd, 1) := zdal_p dlA_Sums_putSingle_61 (i := 13) rfl
theorem d_Sums_putSingle_26 : decode (zb m_Sums_putSingle) 26 = .ok (.iload 5, 2) := zdal_p dlA_Sums_putSingle_61 (i := 14) rfl
theorem d_Sums_putSingle_28 : decode (zb m_Sums_putSingle) 28 = .ok (.iload_n 2, 1) := zdal_p dlA_Sums_putSingle_61 (i := 15) rfl
theorem d_Sums_putSingle_29 : decode (zb m_Sums_putSingle) 29 = .ok (.if_icmp .ne 7, 3) := zdal_p dlA_Sums_putSingle_61 (i := 16) rfl
theorem d_Sums_putSingle_32 : decode (zb m_Sums_putSingle) 32 = .ok (.lload_n 3, 1) := zdal_p dlA_Sums_putSingle_61 (i := 17) rfl
theorem d_Sums_putSingle_33 : decode (zb m_Sums_putSingle) 33 = .ok (.goto 4, 3) := zdal_p dlA_Sums_putSingle_61 (i := 18) rfl
theorem d_Sums_putSingle_36 : decode (zb m_Sums_putSingle) 36 = .ok (.lconst 0, 1) := zdal_p dlA_Sums_putSingle_61 (i := 19) rfl
theorem d_Sums_putSingle_37 : decode (zb m_Sums_putSingle) 37 = .ok (.invokevirtual 31, 3) := zdal_p dlA_Sums_putSingle_61 (i := 20) rfl
theorem d_Sums_putSingle_40 : decode (zb m_Sums_putSingle) 40 = .ok (.iinc 5 1, 3) := zdal_p dlA_Sums_putSingle_61 (i := 21) rfl
theorem d_Sums_putSingle_43 : decode (zb m_Sums_putSingle) 43 = .ok (.goto (-40), 3) := zdal_p dlA_Sums_putSingle_61 (i := 22) rfl
theorem d_Sums_putSingle_46 : decode (zb m_Sums_putSingle) 46 = .ok (.return_, 1) := zdal_p dlA_Sums_putSingle_61 (i := 23) rfl
theorem dlA_LongRow_put_62 : zdal (zb m_LongRow_put) [(0, (.iload_n 1, 1)), (1, (.ifCond .lt 19, 3)), (4, (.iload_n 1, 1)), (5, (.aload_n 0, 1)), (6, (.getfield 13, 3)), (9, (.arraylength, 1)), (10, (.if_icmp .ge 10, 3)), (13, (.aload_n 0, 1)), (14, (.getfield 13, 3)), (17, (.iload_n 1, 1)), (18, (.lload_n 2, 1)), (19, (.lastore, 1)), (20, (.return_, 1))] = true := zDs 0 (by decide +kernel)
theorem d_LongRow_put_0 : decode (zb m_LongRow_put) 0 = .ok (.iload_n 1, 1) := zdal_p dlA_LongRow_put_62 (i := 0) rfl
theorem d_LongRow_put_1 : decode (zb m_LongRow_put) 1 = .ok (.ifCond .lt 19, 3) := zdal_p dlA_LongRow_put_62 (i := 1) rfl
theorem d_LongRow_put_4 : decode (zb m_LongRow_put) 4 = .ok (.iload_n 1, 1) := zdal_p dlA_LongRow_put_62 (i := 2) rfl
theorem d_LongRow_put_5 : decode (zb m_LongRow_put) 5 = .ok (.aload_n 0, 1) := zdal_p dlA_LongRow_put_62 (i := 3) rfl
theorem d_LongRow_put_6 : decode (zb m_LongRow_put) 6 = .ok (.getfield 13, 3) := zdal_p dlA_LongRow_put_62 (i := 4) rfl
theorem d_LongRow_put_9 : decode (zb m_LongRow_put) 9 = .ok (.arraylength, 1) := zdal_p dlA_LongRow_put_62 (i := 5) rfl
theorem d_LongRow_put_10 : decode (zb m_LongRow_put) 10 = .ok (.if_icmp .ge 10, 3) := zdal_p dlA_LongRow_put_62 (i := 6) rfl
theorem d_LongRow_put_13 : decode (zb m_LongRow_put) 13 = .ok (.aload_n 0, 1) := zdal_p dlA_LongRow_put_62 (i := 7) rfl
theorem d_LongRow_put_14 : decode (zb m_LongRow_put) 14 = .ok (.getfield 13, 3) := zdal_p dlA_LongRow_put_62 (i := 8) rfl
theorem d_LongRow_put_17 : decode (zb m_LongRow_put) 17 = .ok (.iload_n 1, 1) := zdal_p dlA_LongRow_put_62 (i := 9) rfl
theorem d_LongRow_put_18 : decode (zb m_LongRow_put) 18 = .ok (.lload_n 2, 1) := zdal_p dlA_LongRow_put_62 (i := 10) rfl
theorem d_LongRow_put_19 : decode (zb m_LongRow_put) 19 = .ok (.lastore, 1) := zdal_p dlA_LongRow_put_62 (i := 11) rfl
theorem d_LongRow_put_20 : decode (zb m_LongRow_put) 20 = .ok (.return_, 1) := zdal_p dlA_LongRow_put_62 (i := 12) rfl
theorem dlA_T_feed_63 : zdal (zb m_T_feed) [(0, (.aload_n 0, 1)), (1, (.getfield 10, 3)), (4, (.getfield 42, 3)), (7, (.bipush 20, 2)), (9, (.iadd, 1)), (10, (.sipush 700, 3)), (13, (.if_icmp .le 5, 3)), (16, (.iconst (-1), 1)), (17, (.ireturn, 1)), (18, (.aload_n 0, 1)), (19, (.getfield 10, 3)), (22, (.iload_n 1, 1)), (23, (.invokevirtual 46, 3)), (26, (.aload_n 0, 1)), (27, (.getfield 10, 3)), (30, (.iload_n 2, 1)), (31, (.invokevirtual 46, 3)), (34, (.aload_n 0, 1)), (35, (.getfield 10, 3)), (38, (.iload_n 3, 1)), (39, (.invokevirtual 46, 3)), (42, (.aload_n 0, 1)), (43, (.getfield 10, 3)), (46, (.iload 4, 2))] = true := zDs 0 (by decide +kernel)
theorem d_T_feed_0 : decode (zb m_T_feed) 0 = .ok (.aload_n 0, 1) := zdal_p dlA_T_feed_63 (i := 0) rfl
theorem d_T_feed_1 : decode (zb m_T_feed) 1 = .ok (.getfield 10, 3) := zdal_p dlA_T_feed_63 (i := 1) rfl
theorem d_T_feed_4 : decode (zb m_T_feed) 4 = .ok (.getfield 42, 3) := zdal_p dlA_T_feed_63 (i := 2) rfl
theorem d_T_feed_7 : decode (zb m_T_feed) 7 = .ok (.bipush 20, 2) := zdal_p dlA_T_feed_63 (i := 3) rfl
theorem d_T_feed_9 : decode (zb m_T_feed) 9 = .ok (.iadd, 1) := zdal_p dlA_T_feed_63 (i := 4) rfl
theorem d_T_feed_10 : decode (zb m_T_feed) 10 = .ok (.sipush 700, 3) := zdal_p dlA_T_feed_63 (i := 5) rfl
theorem d_T_feed_13 : decode (zb m_T_feed) 13 = .ok (.if_icmp .le 5, 3) := zdal_p dlA_T_feed_63 (i := 6) rfl
theorem d_T_feed_16 : decode (zb m_T_feed) 16 = .ok (.iconst (-1), 1) := zdal_p dlA_T_feed_63 (i := 7) rfl
theorem d_T_feed_17 : decode (zb m_T_feed) 17 = .ok (.ireturn, 1) := zdal_p dlA_T_feed_63 (i := 8) rfl
theorem d_T_feed_18 : decode (zb m_T_feed) 18 = .ok (.aload_n 0, 1) := zdal_p dlA_T_feed_63 (i := 9) rfl
theorem d_T_feed_19 : decode (zb m_T_feed) 19 = .ok (.getfield 10, 3) := zdal_p dlA_T_feed_63 (i := 10) rfl
theorem d_T_feed_22 : decode (zb m_T_feed) 22 = .ok (.iload_n 1, 1) := zdal_p dlA_T_feed_63 (i := 11) rfl
theorem d_T_feed_23 : decode (zb m_T_feed) 23 = .ok (.invokevirtual 46, 3) := zdal_p dlA_T_feed_63 (i := 12) rfl
theorem d_T_feed_26 : decode (zb m_T_feed) 26 = .ok (.aload_n 0, 1) := zdal_p dlA_T_feed_63 (i := 13) rfl
theorem d_T_feed_27 : decode (zb m_T_feed) 27 = .ok (.getfield 10, 3) := zdal_p dlA_T_feed_63 (i := 14) rfl
theorem d_T_feed_30 : decode (zb m_T_feed) 30 = .ok (.iload_n 2, 1) := zdal_p dlA_T_feed_63 (i := 15) rfl
theorem d_T_feed_31 : decode (zb m_T_feed) 31 = .ok (.invokevirtual 46, 3) := zdal_p dlA_T_feed_63 (i := 16) rfl
theorem d_T_feed_34 : decode (zb m_T_feed) 34 = .ok (.aload_n 0, 1) := zdal_p dlA_T_feed_63 (i := 17) rfl
theorem d_T_feed_35 : decode (zb m_T_feed) 35 = .ok (.getfield 10, 3) := zdal_p dlA_T_feed_63 (i := 18) rfl
theorem d_T_feed_38 : decode (zb m_T_feed) 38 = .ok (.iload_n 3, 1) := zdal_p dlA_T_feed_63 (i := 19) rfl
theorem d_T_feed_39 : decode (zb m_T_feed) 39 = .ok (.invokevirtual 46, 3) := zdal_p dlA_T_feed_63 (i := 20) rfl
theorem d_T_feed_42 : decode (zb m_T_feed) 42 = .ok (.aload_n 0, 1) := zdal_p dlA_T_feed_63 (i := 21) rfl
theorem d_T_feed_43 : decode (zb m_T_feed) 43 = .ok (.getfield 10, 3) := zdal_p dlA_T_feed_63 (i := 22) rfl
theorem d_T_feed_46 : decode (zb m_T_feed) 46 = .ok (.iload 4, 2) := zdal_p dlA_T_feed_63 (i := 23) rfl
theorem dlA_T_feed_64 : zdal (zb m_T_feed) [(48, (.invokevirtual 46, 3)), (51, (.aload_n 0, 1)), (52, (.getfield 10, 3)), (55, (.iload 5, 2)), (57, (.invokevirtual 46, 3)), (60, (.aload_n 0, 1)), (61, (.getfield 10, 3)), (64, (.getfield 42, 3)), (67, (.ireturn, 1))] = true := zDs 48 (by decide +kernel)
theorem d_T_feed_48 : decode (zb m_T_feed) 48 = .ok (.invokevirtual 46, 3) := zdal_p dlA_T_feed_64 (i := 0) rfl
theorem d_T_feed_51 : decode (zb m_T_feed) 51 = .ok (.aload_n 0, 1) := zdal_p dlA_T_feed_64 (i := 1) rfl
theorem d_T_feed_52 : decode (zb m_T_feed) 52 = .ok (.getfield 10, 3) := zdal_p dlA_T_feed_64 (i := 2) rfl
theorem d_T_feed_55 : decode (zb m_T_feed) 55 = .ok (.iload 5, 2) := zdal_p dlA_T_feed_64 (i := 3) rfl
theorem d_T_feed_57 : decode (zb m_T_feed) 57 = .ok (.invokevirtual 46, 3) := zdal_p dlA_T_feed_64 (i := 4) rfl
theorem d_T_feed_60 : decode (zb m_T_feed) 60 = .ok (.aload_n 0, 1) := zdal_p dlA_T_feed_64 (i := 5) rfl
theorem d_T_feed_61 : decode (zb m_T_feed) 61 = .ok (.getfield 10, 3) := zdal_p dlA_T_feed_64 (i := 6) rfl
theorem d_T_feed_64 : decode (zb m_T_feed) 64 = .ok (.getfield 42, 3) := zdal_p dlA_T_feed_64 (i := 7) rfl
theorem d_T_feed_67 : decode (zb m_T_feed) 67 = .ok (.ireturn, 1) := zdal_p dlA_T_feed_64 (i := 8) rfl
theorem dlA_Tokens_append_65 : zdal (zb m_Tokens_append) [(0, (.bipush 24, 2)), (2, (.istore_n 2, 1)), (3, (.iload_n 2, 1)), (4, (.ifCond .lt 37, 3)), (7, (.aload_n 0, 1)), (8, (.getfield 14, 3)), (11, (.aload_n 0, 1)), (12, (.getfield 20, 3)), (15, (.iload_n 1, 1)), (16, (.iload_n 2, 1)), (17, (.ishr, 1)), (18, (.sipush 255, 3)), (21, (.iand, 1)), (22, (.invokevirtual 24, 3)), (25, (.aload_n 0, 1)), (26, (.dup, 1)), (27, (.getfield 20, 3)), (30, (.iconst 1, 1)), (31, (.iadd, 1)), (32, (.putfield 20, 3)), (35, (.iinc 2 (-8), 3)), (38, (.goto (-35), 3)), (41, (.return_, 1))] = true := zDs 0 (by decide +kernel)
theorem d_Tokens_append_0 : decode (zb m_Tokens_append) 0 = .ok (.bipush 24, 2) := zdal_p dlA_Tokens_append_65 (i := 0) rfl
theorem d_Tokens_append_2 : decode (zb m_Tokens_append) 2 = .ok (.istore_n 2, 1) := zdal_p dlA_Tokens_append_65 (i := 1) rfl
theorem d_Tokens_append_3 : decode (zb m_Tokens_append) 3 = .ok (.iload_n 2, 1) := zdal_p dlA_Tokens_append_65 (i := 2) rfl
theorem d_Tokens_append_4 : decode (zb m_Tokens_append) 4 = .ok (.ifCond .lt 37, 3) := zdal_p dlA_Tokens_append_65 (i := 3) rfl
theorem d_Tokens_append_7 : decode (zb m_Tokens_append) 7 = .ok (.aload_n 0, 1) := zdal_p dlA_Tokens_append_65 (i := 4) rfl
theorem d_Tokens_append_8 : decode (zb m_Tokens_append) 8 = .ok (.getfield 14, 3) := zdal_p dlA_Tokens_append_65 (i := 5) rfl
theorem d_Tokens_append_11 : decode (zb m_Tokens_append) 11 = .ok (.aload_n 0, 1) := zdal_p dlA_Tokens_append_65 (i := 6) rfl
theorem d_Tokens_append_12 : decode (zb m_Tokens_append) 12 = .ok (.getfield 20, 3) := zdal_p dlA_Tokens_append_65 (i := 7) rfl
theorem d_Tokens_append_15 : decode (zb m_Tokens_append) 15 = .ok (.iload_n 1, 1) := zdal_p dlA_Tokens_append_65 (i := 8) rfl
theorem d_Tokens_append_16 : decode (zb m_Tokens_append) 16 = .ok (.iload_n 2, 1) := zdal_p dlA_Tokens_append_65 (i := 9) rfl
theorem d_Tokens_append_17 : decode (zb m_Tokens_append) 17 = .ok (.ishr, 1) := zdal_p dlA_Tokens_append_65 (i := 10) rfl
theorem d_Tokens_append_18 : decode (zb m_Tokens_append) 18 = .ok (.sipush 255, 3) := zdal_p dlA_Tokens_append_65 (i := 11) rfl
theorem d_Tokens_append_21 : decode (zb m_Tokens_append) 21 = .ok (.iand, 1) := zdal_p dlA_Tokens_append_65 (i := 12) rfl
theorem d_Tokens_append_22 : decode (zb m_Tokens_append) 22 = .ok (.invokevirtual 24, 3) := zdal_p dlA_Tokens_append_65 (i := 13) rfl
theorem d_Tokens_append_25 : decode (zb m_Tokens_append) 25 = .ok (.aload_n 0, 1) := zdal_p dlA_Tokens_append_65 (i := 14) rfl
theorem d_Tokens_append_26 : decode (zb m_Tokens_append) 26 = .ok (.dup, 1) := zdal_p dlA_Tokens_append_65 (i := 15) rfl
theorem d_Tokens_append_27 : decode (zb m_Tokens_append) 27 = .ok (.getfield 20, 3) := zdal_p dlA_Tokens_append_65 (i := 16) rfl
theorem d_Tokens_append_30 : decode (zb m_Tokens_append) 30 = .ok (.iconst 1, 1) := zdal_p dlA_Tokens_append_65 (i := 17) rfl
theorem d_Tokens_append_31 : decode (zb m_Tokens_append) 31 = .ok (.iadd, 1) := zdal_p dlA_Tokens_append_65 (i := 18) rfl
theorem d_Tokens_append_32 : decode (zb m_Tokens_append) 32 = .ok (.putfield 20, 3) := zdal_p dlA_Tokens_append_65 (i := 19) rfl
theorem d_Tokens_append_35 : decode (zb m_Tokens_append) 35 = .ok (.iinc 2 (-8), 3) := zdal_p dlA_Tokens_append_65 (i := 20) rfl
theorem d_Tokens_append_38 : decode (zb m_Tokens_append) 38 = .ok (.goto (-35), 3) := zdal_p dlA_Tokens_append_65 (i := 21) rfl
theorem d_Tokens_append_41 : decode (zb m_Tokens_append) 41 = .ok (.return_, 1) := zdal_p dlA_Tokens_append_65 (i := 22) rfl
theorem dlA_T_end_66 : zdal (zb m_T_end) [(0, (.iload_n 1, 1)), (1, (.ifCond .lt 14, 3)), (4, (.iload_n 1, 1)), (5, (.aload_n 0, 1)), (6, (.getfield 10, 3)), (9, (.getfield 42, 3)), (12, (.if_icmp .le 5, 3)), (15, (.iconst (-1), 1)), (16, (.ireturn, 1)), (17, (.aload_n 0, 1)), (18, (.getfield 10, 3)), (21, (.iload_n 1, 1)), (22, (.putfield 42, 3)), (25, (.iload_n 1, 1)), (26, (.ireturn, 1))] = true := zDs 0 (by decide +kernel)
theorem d_T_end_0 : decode (zb m_T_end) 0 = .ok (.iload_n 1, 1) := zdal_p dlA_T_end_66 (i := 0) rfl
theorem d_T_end_1 : decode (zb m_T_end) 1 = .ok (.ifCond .lt 14, 3) := zdal_p dlA_T_end_66 (i := 1) rfl
theorem d_T_end_4 : decode (zb m_T_end) 4 = .ok (.iload_n 1, 1) := zdal_p dlA_T_end_66 (i := 2) rfl
theorem d_T_end_5 : decode (zb m_T_end) 5 = .ok (.aload_n 0, 1) := zdal_p dlA_T_end_66 (i := 3) rfl
theorem d_T_end_6 : decode (zb m_T_end) 6 = .ok (.getfield 10, 3) := zdal_p dlA_T_end_66 (i := 4) rfl
theorem d_T_end_9 : decode (zb m_T_end) 9 = .ok (.getfield 42, 3) := zdal_p dlA_T_end_66 (i := 5) rfl
theorem d_T_end_12 : decode (zb m_T_end) 12 = .ok (.if_icmp .le 5, 3) := zdal_p dlA_T_end_66 (i := 6) rfl
theorem d_T_end_15 : decode (zb m_T_end) 15 = .ok (.iconst (-1), 1) := zdal_p dlA_T_end_66 (i := 7) rfl
theorem d_T_end_16 : decode (zb m_T_end) 16 = .ok (.ireturn, 1) := zdal_p dlA_T_end_66 (i := 8) rfl
theorem d_T_end_17 : decode (zb m_T_end) 17 = .ok (.aload_n 0, 1) := zdal_p dlA_T_end_66 (i := 9) rfl
theorem d_T_end_18 : decode (zb m_T_end) 18 = .ok (.getfield 10, 3) := zdal_p dlA_T_end_66 (i := 10) rfl
theorem d_T_end_21 : decode (zb m_T_end) 21 = .ok (.iload_n 1, 1) := zdal_p dlA_T_end_66 (i := 11) rfl
theorem d_T_end_22 : decode (zb m_T_end) 22 = .ok (.putfield 42, 3) := zdal_p dlA_T_end_66 (i := 12) rfl
theorem d_T_end_25 : decode (zb m_T_end) 25 = .ok (.iload_n 1, 1) := zdal_p dlA_T_end_66 (i := 13) rfl
theorem d_T_end_26 : decode (zb m_T_end) 26 = .ok (.ireturn, 1) := zdal_p dlA_T_end_66 (i := 14) rfl
theorem dlA_T_troupe_67 : zdal (zb m_T_troupe) [(0, (.aload_n 0, 1)), (1, (.getfield 32, 3)), (4, (.astore_n 1, 1)), (5, (.aload_n 0, 1)), (6, (.getfield 21, 3)), (9, (.invokevirtual 49, 3)), (12, (.aload_n 0, 1)), (13, (.getfield 21, 3)), (16, (.aload_n 1, 1)), (17, (.invokevirtual 51, 3)), (20, (.ifCond .eq 18, 3)), (23, (.aload_n 0, 1)), (24, (.getfield 21, 3)), (27, (.aload_n 1, 1)), (28, (.invokevirtual 55, 3)), (31, (.ifCond .eq 7, 3)), (34, (.iconst 1, 1)), (35, (.goto 4, 3)), (38, (.iconst 0, 1)), (39, (.istore_n 2, 1)), (40, (.iload_n 2, 1)), (41, (.ifCond .eq 16, 3)), (44, (.aload_n 1, 1)), (45, (.invokevirtual 39, 3))] = true := zDs 0 (by decide +kernel)
theorem d_T_troupe_0 : decode (zb m_T_troupe) 0 = .ok (.aload_n 0, 1) := zdal_p dlA_T_troupe_67 (i := 0) rfl
theorem d_T_troupe_1 : decode (zb m_T_troupe) 1 = .ok (.getfield 32, 3) := zdal_p dlA_T_troupe_67 (i := 1) rfl
theorem d_T_troupe_4 : decode (zb m_T_troupe) 4 = .ok (.astore_n 1, 1) := zdal_p dlA_T_troupe_67 (i := 2) rfl
theorem d_T_troupe_5 : decode (zb m_T_troupe) 5 = .ok (.aload_n 0, 1) := zdal_p dlA_T_troupe_67 (i := 3) rfl
theorem d_T_troupe_6 : decode (zb m_T_troupe) 6 = .ok (.getfield 21, 3) := zdal_p dlA_T_troupe_67 (i := 4) rfl
theorem d_T_troupe_9 : decode (zb m_T_troupe) 9 = .ok (.invokevirtual 49, 3) := zdal_p dlA_T_troupe_67 (i := 5) rfl
theorem d_T_troupe_12 : decode (zb m_T_troupe) 12 = .ok (.aload_n 0, 1) := zdal_p dlA_T_troupe_67 (i := 6) rfl
theorem d_T_troupe_13 : decode (zb m_T_troupe) 13 = .ok (.getfield 21, 3) := zdal_p dlA_T_troupe_67 (i := 7) rfl
theorem d_T_troupe_16 : decode (zb m_T_troupe) 16 = .ok (.aload_n 1, 1) := zdal_p dlA_T_troupe_67 (i := 8) rfl
theorem d_T_troupe_17 : decode (zb m_T_troupe) 17 = .ok (.invokevirtual 51, 3) := zdal_p dlA_T_troupe_67 (i := 9) rfl
theorem d_T_troupe_20 : decode (zb m_T_troupe) 20 = .ok (.ifCond .eq 18, 3) := zdal_p dlA_T_troupe_67 (i := 10) rfl
theorem d_T_troupe_23 : decode (zb m_T_troupe) 23 = .ok (.aload_n 0, 1) := zdal_p dlA_T_troupe_67 (i := 11) rfl
theorem d_T_troupe_24 : decode (zb m_T_troupe) 24 = .ok (.getfield 21, 3) := zdal_p dlA_T_troupe_67 (i := 12) rfl
theorem d_T_troupe_27 : decode (zb m_T_troupe) 27 = .ok (.aload_n 1, 1) := zdal_p dlA_T_troupe_67 (i := 13) rfl
theorem d_T_troupe_28 : decode (zb m_T_troupe) 28 = .ok (.invokevirtual 55, 3) := zdal_p dlA_T_troupe_67 (i := 14) rfl
theorem d_T_troupe_31 : decode (zb m_T_troupe) 31 = .ok (.ifCond .eq 7, 3) := zdal_p dlA_T_troupe_67 (i := 15) rfl
theorem d_T_troupe_34 : decode (zb m_T_troupe) 34 = .ok (.iconst 1, 1) := zdal_p dlA_T_troupe_67 (i := 16) rfl
theorem d_T_troupe_35 : decode (zb m_T_troupe) 35 = .ok (.goto 4, 3) := zdal_p dlA_T_troupe_67 (i := 17) rfl
theorem d_T_troupe_38 : decode (zb m_T_troupe) 38 = .ok (.iconst 0, 1) := zdal_p dlA_T_troupe_67 (i := 18) rfl
theorem d_T_troupe_39 : decode (zb m_T_troupe) 39 = .ok (.istore_n 2, 1) := zdal_p dlA_T_troupe_67 (i := 19) rfl
theorem d_T_troupe_40 : decode (zb m_T_troupe) 40 = .ok (.iload_n 2, 1) := zdal_p dlA_T_troupe_67 (i := 20) rfl
theorem d_T_troupe_41 : decode (zb m_T_troupe) 41 = .ok (.ifCond .eq 16, 3) := zdal_p dlA_T_troupe_67 (i := 21) rfl
theorem d_T_troupe_44 : decode (zb m_T_troupe) 44 = .ok (.aload_n 1, 1) := zdal_p dlA_T_troupe_67 (i := 22) rfl
theorem d_T_troupe_45 : decode (zb m_T_troupe) 45 = .ok (.invokevirtual 39, 3) := zdal_p dlA_T_troupe_67 (i := 23) rfl
theorem dlA_T_troupe_68 : zdal (zb m_T_troupe) [(48, (.aload_n 0, 1)), (49, (.getfield 21, 3)), (52, (.aload_n 1, 1)), (53, (.invokevirtual 58, 3)), (56, (.istore_n 2, 1)), (57, (.aload_n 0, 1)), (58, (.getfield 10, 3)), (61, (.iconst 0, 1)), (62, (.putfield 42, 3)), (65, (.iload_n 2, 1)), (66, (.ifCond .ne 5, 3)), (69, (.iconst (-1), 1)), (70, (.ireturn, 1)), (71, (.aload_n 0, 1)), (72, (.aload_n 0, 1)), (73, (.getfield 28, 3)), (76, (.putfield 32, 3)), (79, (.aload_n 0, 1)), (80, (.aload_n 1, 1)), (81, (.putfield 28, 3)), (84, (.aload_n 0, 1)), (85, (.getfield 28, 3)), (88, (.getfield 61, 3)), (91, (.getfield 65, 3))] = true := zDs 48 (by decide +kernel)
theorem d_T_troupe_48 : decode (zb m_T_troupe) 48 = .ok (.aload_n 0, 1) := zdal_p dlA_T_troupe_68 (i := 0) rfl
theorem d_T_troupe_49 : decode (zb m_T_troupe) 49 = .ok (.getfield 21, 3) := zdal_p dlA_T_troupe_68 (i := 1) rfl
theorem d_T_troupe_52 : decode (zb m_T_troupe) 52 = .ok (.aload_n 1, 1) := zdal_p dlA_T_troupe_68 (i := 2) rfl
theorem d_T_troupe_53 : decode (zb m_T_troupe) 53 = .ok (.invokevirtual 58, 3) := zdal_p dlA_T_troupe_68 (i := 3) rfl
theorem d_T_troupe_56 : decode (zb m_T_troupe) 56 = .ok (.istore_n 2, 1) := zdal_p dlA_T_troupe_68 (i := 4) rfl
theorem d_T_troupe_57 : decode (zb m_T_troupe) 57 = .ok (.aload_n 0, 1) := zdal_p dlA_T_troupe_68 (i := 5) rfl
theorem d_T_troupe_58 : decode (zb m_T_troupe) 58 = .ok (.getfield 10, 3) := zdal_p dlA_T_troupe_68 (i := 6) rfl
theorem d_T_troupe_61 : decode (zb m_T_troupe) 61 = .ok (.iconst 0, 1) := zdal_p dlA_T_troupe_68 (i := 7) rfl
theorem d_T_troupe_62 : decode (zb m_T_troupe) 62 = .ok (.putfield 42, 3) := zdal_p dlA_T_troupe_68 (i := 8) rfl
theorem d_T_troupe_65 : decode (zb m_T_troupe) 65 = .ok (.iload_n 2, 1) := zdal_p dlA_T_troupe_68 (i := 9) rfl
theorem d_T_troupe_66 : decode (zb m_T_troupe) 66 = .ok (.ifCond .ne 5, 3) := zdal_p dlA_T_troupe_68 (i := 10) rfl
theorem d_T_troupe_69 : decode (zb m_T_troupe) 69 = .ok (.iconst (-1), 1) := zdal_p dlA_T_troupe_68 (i := 11) rfl
theorem d_T_troupe_70 : decode (zb m_T_troupe) 70 = .ok (.ireturn, 1) := zdal_p dlA_T_troupe_68 (i := 12) rfl
theorem d_T_troupe_71 : decode (zb m_T_troupe) 71 = .ok (.aload_n 0, 1) := zdal_p dlA_T_troupe_68 (i := 13) rfl
theorem d_T_troupe_72 : decode (zb m_T_troupe) 72 = .ok (.aload_n 0, 1) := zdal_p dlA_T_troupe_68 (i := 14) rfl
theorem d_T_troupe_73 : decode (zb m_T_troupe) 73 = .ok (.getfield 28, 3) := zdal_p dlA_T_troupe_68 (i := 15) rfl
theorem d_T_troupe_76 : decode (zb m_T_troupe) 76 = .ok (.putfield 32, 3) := zdal_p dlA_T_troupe_68 (i := 16) rfl
theorem d_T_troupe_79 : decode (zb m_T_troupe) 79 = .ok (.aload_n 0, 1) := zdal_p dlA_T_troupe_68 (i := 17) rfl
theorem d_T_troupe_80 : decode (zb m_T_troupe) 80 = .ok (.aload_n 1, 1) := zdal_p dlA_T_troupe_68 (i := 18) rfl
theorem d_T_troupe_81 : decode (zb m_T_troupe) 81 = .ok (.putfield 28, 3) := zdal_p dlA_T_troupe_68 (i := 19) rfl
theorem d_T_troupe_84 : decode (zb m_T_troupe) 84 = .ok (.aload_n 0, 1) := zdal_p dlA_T_troupe_68 (i := 20) rfl
theorem d_T_troupe_85 : decode (zb m_T_troupe) 85 = .ok (.getfield 28, 3) := zdal_p dlA_T_troupe_68 (i := 21) rfl
theorem d_T_troupe_88 : decode (zb m_T_troupe) 88 = .ok (.getfield 61, 3) := zdal_p dlA_T_troupe_68 (i := 22) rfl
theorem d_T_troupe_91 : decode (zb m_T_troupe) 91 = .ok (.getfield 65, 3) := zdal_p dlA_T_troupe_68 (i := 23) rfl
theorem dlA_T_troupe_69 : zdal (zb m_T_troupe) [(94, (.ireturn, 1))] = true := zDs 94 (by decide +kernel)
theorem d_T_troupe_94 : decode (zb m_T_troupe) 94 = .ok (.ireturn, 1) := zdal_p dlA_T_troupe_69 (i := 0) rfl
theorem dlA_Reader_begin_70 : zdal (zb m_Reader_begin) [(0, (.aload_n 0, 1)), (1, (.iconst 0, 1)), (2, (.putfield 19, 3)), (5, (.aload_n 0, 1)), (6, (.iconst (-1), 1)), (7, (.putfield 9, 3)), (10, (.aload_n 0, 1)), (11, (.getfield 15, 3)), (14, (.invokevirtual 22, 3)), (17, (.return_, 1))] = true := zDs 0 (by decide +kernel)
theorem d_Reader_begin_0 : decode (zb m_Reader_begin) 0 = .ok (.aload_n 0, 1) := zdal_p dlA_Reader_begin_70 (i := 0) rfl
theorem d_Reader_begin_1 : decode (zb m_Reader_begin) 1 = .ok (.iconst 0, 1) := zdal_p dlA_Reader_begin_70 (i := 1) rfl
theorem d_Reader_begin_2 : decode (zb m_Reader_begin) 2 = .ok (.putfield 19, 3) := zdal_p dlA_Reader_begin_70 (i := 2) rfl
theorem d_Reader_begin_5 : decode (zb m_Reader_begin) 5 = .ok (.aload_n 0, 1) := zdal_p dlA_Reader_begin_70 (i := 3) rfl
theorem d_Reader_begin_6 : decode (zb m_Reader_begin) 6 = .ok (.iconst (-1), 1) := zdal_p dlA_Reader_begin_70 (i := 4) rfl
theorem d_Reader_begin_7 : decode (zb m_Reader_begin) 7 = .ok (.putfield 9, 3) := zdal_p dlA_Reader_begin_70 (i := 5) rfl
theorem d_Reader_begin_10 : decode (zb m_Reader_begin) 10 = .ok (.aload_n 0, 1) := zdal_p dlA_Reader_begin_70 (i := 6) rfl
theorem d_Reader_begin_11 : decode (zb m_Reader_begin) 11 = .ok (.getfield 15, 3) := zdal_p dlA_Reader_begin_70 (i := 7) rfl
theorem d_Reader_begin_14 : decode (zb m_Reader_begin) 14 = .ok (.invokevirtual 22, 3) := zdal_p dlA_Reader_begin_70 (i := 8) rfl
theorem d_Reader_begin_17 : decode (zb m_Reader_begin) 17 = .ok (.return_, 1) := zdal_p dlA_Reader_begin_70 (i := 9) rfl
theorem dlA_Tokens_rewind_71 : zdal (zb m_Tokens_rewind) [(0, (.aload_n 0, 1)), (1, (.iconst 0, 1)), (2, (.putfield 28, 3)), (5, (.aload_n 0, 1)), (6, (.invokevirtual 31, 3)), (9, (.return_, 1))] = true := zDs 0 (by decide +kernel)
theorem d_Tokens_rewind_0 : decode (zb m_Tokens_rewind) 0 = .ok (.aload_n 0, 1) := zdal_p dlA_Tokens_rewind_71 (i := 0) rfl
theorem d_Tokens_rewind_1 : decode (zb m_Tokens_rewind) 1 = .ok (.iconst 0, 1) := zdal_p dlA_Tokens_rewind_71 (i := 1) rfl
theorem d_Tokens_rewind_2 : decode (zb m_Tokens_rewind) 2 = .ok (.putfield 28, 3) := zdal_p dlA_Tokens_rewind_71 (i := 2) rfl
theorem d_Tokens_rewind_5 : decode (zb m_Tokens_rewind) 5 = .ok (.aload_n 0, 1) := zdal_p dlA_Tokens_rewind_71 (i := 3) rfl
theorem d_Tokens_rewind_6 : decode (zb m_Tokens_rewind) 6 = .ok (.invokevirtual 31, 3) := zdal_p dlA_Tokens_rewind_71 (i := 4) rfl
theorem d_Tokens_rewind_9 : decode (zb m_Tokens_rewind) 9 = .ok (.return_, 1) := zdal_p dlA_Tokens_rewind_71 (i := 5) rfl
theorem dlA_Tokens_step_72 : zdal (zb m_Tokens_step) [(0, (.aload_n 0, 1)), (1, (.aload_n 0, 1)), (2, (.aload_n 0, 1)), (3, (.getfield 28, 3)), (6, (.invokevirtual 34, 3)), (9, (.putfield 38, 3)), (12, (.aload_n 0, 1)), (13, (.aload_n 0, 1)), (14, (.getfield 38, 3)), (17, (.putfield 28, 3)), (20, (.aload_n 0, 1)), (21, (.iconst 0, 1)), (22, (.putfield 41, 3)), (25, (.aload_n 0, 1)), (26, (.getfield 38, 3)), (29, (.aload_n 0, 1)), (30, (.getfield 20, 3)), (33, (.if_icmp .lt 11, 3)), (36, (.aload_n 0, 1)), (37, (.iconst 0, 1)), (38, (.putfield 44, 3)), (41, (.goto 95, 3)), (44, (.aload_n 0, 1)), (45, (.getfield 14, 3))] = true := zDs 0 (by decide +kernel)
theorem d_Tokens_step_0 : decode (zb m_Tokens_step) 0 = .ok (.aload_n 0, 1) := zdal_p dlA_Tokens_step_72 (i := 0) rfl
theorem d_Tokens_step_1 : decode (zb m_Tokens_step) 1 = .ok (.aload_n 0, 1) := zdal_p dlA_Tokens_step_72 (i := 1) rfl
theorem d_Tokens_step_2 : decode (zb m_Tokens_step) 2 = .ok (.aload_n 0, 1) := zdal_p dlA_Tokens_step_72 (i := 2) rfl
theorem d_Tokens_step_3 : decode (zb m_Tokens_step) 3 = .ok (.getfield 28, 3) := zdal_p dlA_Tokens_step_72 (i := 3) rfl
theorem d_Tokens_step_6 : decode (zb m_Tokens_step) 6 = .ok (.invokevirtual 34, 3) := zdal_p dlA_Tokens_step_72 (i := 4) rfl
theorem d_Tokens_step_9 : decode (zb m_Tokens_step) 9 = .ok (.putfield 38, 3) := zdal_p dlA_Tokens_step_72 (i := 5) rfl
theorem d_Tokens_step_12 : decode (zb m_Tokens_step) 12 = .ok (.aload_n 0, 1) := zdal_p dlA_Tokens_step_72 (i := 6) rfl
theorem d_Tokens_step_13 : decode (zb m_Tokens_step) 13 = .ok (.aload_n 0, 1) := zdal_p dlA_Tokens_step_72 (i := 7) rfl
theorem d_Tokens_step_14 : decode (zb m_Tokens_step) 14 = .ok (.getfield 38, 3) := zdal_p dlA_Tokens_step_72 (i := 8) rfl
theorem d_Tokens_step_17 : decode (zb m_Tokens_step) 17 = .ok (.putfield 28, 3) := zdal_p dlA_Tokens_step_72 (i := 9) rfl
theorem d_Tokens_step_20 : decode (zb m_Tokens_step) 20 = .ok (.aload_n 0, 1) := zdal_p dlA_Tokens_step_72 (i := 10) rfl
theorem d_Tokens_step_21 : decode (zb m_Tokens_step) 21 = .ok (.iconst 0, 1) := zdal_p dlA_Tokens_step_72 (i := 11) rfl
theorem d_Tokens_step_22 : decode (zb m_Tokens_step) 22 = .ok (.putfield 41, 3) := zdal_p dlA_Tokens_step_72 (i := 12) rfl
theorem d_Tokens_step_25 : decode (zb m_Tokens_step) 25 = .ok (.aload_n 0, 1) := zdal_p dlA_Tokens_step_72 (i := 13) rfl
theorem d_Tokens_step_26 : decode (zb m_Tokens_step) 26 = .ok (.getfield 38, 3) := zdal_p dlA_Tokens_step_72 (i := 14) rfl
theorem d_Tokens_step_29 : decode (zb m_Tokens_step) 29 = .ok (.aload_n 0, 1) := zdal_p dlA_Tokens_step_72 (i := 15) rfl
theorem d_Tokens_step_30 : decode (zb m_Tokens_step) 30 = .ok (.getfield 20, 3) := zdal_p dlA_Tokens_step_72 (i := 16) rfl
theorem d_Tokens_step_33 : decode (zb m_Tokens_step) 33 = .ok (.if_icmp .lt 11, 3) := zdal_p dlA_Tokens_step_72 (i := 17) rfl
theorem d_Tokens_step_36 : decode (zb m_Tokens_step) 36 = .ok (.aload_n 0, 1) := zdal_p dlA_Tokens_step_72 (i := 18) rfl
theorem d_Tokens_step_37 : decode (zb m_Tokens_step) 37 = .ok (.iconst 0, 1) := zdal_p dlA_Tokens_step_72 (i := 19) rfl
theorem d_Tokens_step_38 : decode (zb m_Tokens_step) 38 = .ok (.putfield 44, 3) := zdal_p dlA_Tokens_step_72 (i := 20) rfl
theorem d_Tokens_step_41 : decode (zb m_Tokens_step) 41 = .ok (.goto 95, 3) := zdal_p dlA_Tokens_step_72 (i := 21) rfl
theorem d_Tokens_step_44 : decode (zb m_Tokens_step) 44 = .ok (.aload_n 0, 1) := zdal_p dlA_Tokens_step_72 (i := 22) rfl
theorem d_Tokens_step_45 : decode (zb m_Tokens_step) 45 = .ok (.getfield 14, 3) := zdal_p dlA_Tokens_step_72 (i := 23) rfl
theorem dlA_Tokens_step_73 : zdal (zb m_Tokens_step) [(48, (.aload_n 0, 1)), (49, (.getfield 38, 3)), (52, (.invokevirtual 47, 3)), (55, (.invokestatic 50, 3)), (58, (.ifCond .eq 10, 3)), (61, (.aload_n 0, 1)), (62, (.invokevirtual 54, 3)), (65, (.goto 71, 3)), (68, (.aload_n 0, 1)), (69, (.getfield 14, 3)), (72, (.aload_n 0, 1)), (73, (.getfield 38, 3)), (76, (.invokevirtual 47, 3)), (79, (.invokestatic 57, 3)), (82, (.ifCond .eq 10, 3)), (85, (.aload_n 0, 1)), (86, (.invokevirtual 60, 3)), (89, (.goto 47, 3)), (92, (.aload_n 0, 1)), (93, (.aload_n 0, 1)), (94, (.getfield 14, 3)), (97, (.aload_n 0, 1)), (98, (.getfield 38, 3)), (101, (.invokevirtual 47, 3))] = true := zDs 48 (by decide +kernel)
theorem d_Tokens_step_48 : decode (zb m_Tokens_step) 48 = .ok (.aload_n 0, 1) := zdal_p dlA_Tokens_step_73 (i := 0) rfl
theorem d_Tokens_step_49 : decode (zb m_Tokens_step) 49 = .ok (.getfield 38, 3) := zdal_p dlA_Tokens_step_73 (i := 1) rfl
theorem d_Tokens_step_52 : decode (zb m_Tokens_step) 52 = .ok (.invokevirtual 47, 3) := zdal_p dlA_Tokens_step_73 (i := 2) rfl
theorem d_Tokens_step_55 : decode (zb m_Tokens_step) 55 = .ok (.invokestatic 50, 3) := zdal_p dlA_Tokens_step_73 (i := 3) rfl
theorem d_Tokens_step_58 : decode (zb m_Tokens_step) 58 = .ok (.ifCond .eq 10, 3) := zdal_p dlA_Tokens_step_73 (i := 4) rfl
theorem d_Tokens_step_61 : decode (zb m_Tokens_step) 61 = .ok (.aload_n 0, 1) := zdal_p dlA_Tokens_step_73 (i := 5) rfl
theorem d_Tokens_step_62 : decode (zb m_Tokens_step) 62 = .ok (.invokevirtual 54, 3) := zdal_p dlA_Tokens_step_73 (i := 6) rfl
theorem d_Tokens_step_65 : decode (zb m_Tokens_step) 65 = .ok (.goto 71, 3) := zdal_p dlA_Tokens_step_73 (i := 7) rfl
theorem d_Tokens_step_68 : decode (zb m_Tokens_step) 68 = .ok (.aload_n 0, 1) := zdal_p dlA_Tokens_step_73 (i := 8) rfl
theorem d_Tokens_step_69 : decode (zb m_Tokens_step) 69 = .ok (.getfield 14, 3) := zdal_p dlA_Tokens_step_73 (i := 9) rfl
theorem d_Tokens_step_72 : decode (zb m_Tokens_step) 72 = .ok (.aload_n 0, 1) := zdal_p dlA_Tokens_step_73 (i := 10) rfl
theorem d_Tokens_step_73 : decode (zb m_Tokens_step) 73 = .ok (.getfield 38, 3) := zdal_p dlA_Tokens_step_73 (i := 11) rfl
theorem d_Tokens_step_76 : decode (zb m_Tokens_step) 76 = .ok (.invokevirtual 47, 3) := zdal_p dlA_Tokens_step_73 (i := 12) rfl
theorem d_Tokens_step_79 : decode (zb m_Tokens_step) 79 = .ok (.invokestatic 57, 3) := zdal_p dlA_Tokens_step_73 (i := 13) rfl
theorem d_Tokens_step_82 : decode (zb m_Tokens_step) 82 = .ok (.ifCond .eq 10, 3) := zdal_p dlA_Tokens_step_73 (i := 14) rfl
theorem d_Tokens_step_85 : decode (zb m_Tokens_step) 85 = .ok (.aload_n 0, 1) := zdal_p dlA_Tokens_step_73 (i := 15) rfl
theorem d_Tokens_step_86 : decode (zb m_Tokens_step) 86 = .ok (.invokevirtual 60, 3) := zdal_p dlA_Tokens_step_73 (i := 16) rfl
theorem d_Tokens_step_89 : decode (zb m_Tokens_step) 89 = .ok (.goto 47, 3) := zdal_p dlA_Tokens_step_73 (i := 17) rfl
theorem d_Tokens_step_92 : decode (zb m_Tokens_step) 92 = .ok (.aload_n 0, 1) := zdal_p dlA_Tokens_step_73 (i := 18) rfl
theorem d_Tokens_step_93 : decode (zb m_Tokens_step) 93 = .ok (.aload_n 0, 1) := zdal_p dlA_Tokens_step_73 (i := 19) rfl
theorem d_Tokens_step_94 : decode (zb m_Tokens_step) 94 = .ok (.getfield 14, 3) := zdal_p dlA_Tokens_step_73 (i := 20) rfl
theorem d_Tokens_step_97 : decode (zb m_Tokens_step) 97 = .ok (.aload_n 0, 1) := zdal_p dlA_Tokens_step_73 (i := 21) rfl
theorem d_Tokens_step_98 : decode (zb m_Tokens_step) 98 = .ok (.getfield 38, 3) := zdal_p dlA_Tokens_step_73 (i := 22) rfl
theorem d_Tokens_step_101 : decode (zb m_Tokens_step) 101 = .ok (.invokevirtual 47, 3) := zdal_p dlA_Tokens_step_73 (i := 23) rfl
theorem dlA_Tokens_step_74 : zdal (zb m_Tokens_step) [(104, (.putfield 41, 3)), (107, (.aload_n 0, 1)), (108, (.aload_n 0, 1)), (109, (.getfield 41, 3)), (112, (.invokestatic 63, 3)), (115, (.ifCond .eq 7, 3)), (118, (.iconst 3, 1)), (119, (.goto 4, 3)), (122, (.iconst 4, 1)), (123, (.putfield 44, 3)), (126, (.aload_n 0, 1)), (127, (.aload_n 0, 1)), (128, (.getfield 38, 3)), (131, (.iconst 1, 1)), (132, (.iadd, 1)), (133, (.putfield 28, 3)), (136, (.return_, 1))] = true := zDs 104 (by decide +kernel)
theorem d_Tokens_step_104 : decode (zb m_Tokens_step) 104 = .ok (.putfield 41, 3) := zdal_p dlA_Tokens_step_74 (i := 0) rfl
theorem d_Tokens_step_107 : decode (zb m_Tokens_step) 107 = .ok (.aload_n 0, 1) := zdal_p dlA_Tokens_step_74 (i := 1) rfl
theorem d_Tokens_step_108 : decode (zb m_Tokens_step) 108 = .ok (.aload_n 0, 1) := zdal_p dlA_Tokens_step_74 (i := 2) rfl
theorem d_Tokens_step_109 : decode (zb m_Tokens_step) 109 = .ok (.getfield 41, 3) := zdal_p dlA_Tokens_step_74 (i := 3) rfl
theorem d_Tokens_step_112 : decode (zb m_Tokens_step) 112 = .ok (.invokestatic 63, 3) := zdal_p dlA_Tokens_step_74 (i := 4) rfl
theorem d_Tokens_step_115 : decode (zb m_Tokens_step) 115 = .ok (.ifCond .eq 7, 3) := zdal_p dlA_Tokens_step_74 (i := 5) rfl
theorem d_Tokens_step_118 : decode (zb m_Tokens_step) 118 = .ok (.iconst 3, 1) := zdal_p dlA_Tokens_step_74 (i := 6) rfl
theorem d_Tokens_step_119 : decode (zb m_Tokens_step) 119 = .ok (.goto 4, 3) := zdal_p dlA_Tokens_step_74 (i := 7) rfl
theorem d_Tokens_step_122 : decode (zb m_Tokens_step) 122 = .ok (.iconst 4, 1) := zdal_p dlA_Tokens_step_74 (i := 8) rfl
theorem d_Tokens_step_123 : decode (zb m_Tokens_step) 123 = .ok (.putfield 44, 3) := zdal_p dlA_Tokens_step_74 (i := 9) rfl
theorem d_Tokens_step_126 : decode (zb m_Tokens_step) 126 = .ok (.aload_n 0, 1) := zdal_p dlA_Tokens_step_74 (i := 10) rfl
theorem d_Tokens_step_127 : decode (zb m_Tokens_step) 127 = .ok (.aload_n 0, 1) := zdal_p dlA_Tokens_step_74 (i := 11) rfl
theorem d_Tokens_step_128 : decode (zb m_Tokens_step) 128 = .ok (.getfield 38, 3) := zdal_p dlA_Tokens_step_74 (i := 12) rfl
theorem d_Tokens_step_131 : decode (zb m_Tokens_step) 131 = .ok (.iconst 1, 1) := zdal_p dlA_Tokens_step_74 (i := 13) rfl
theorem d_Tokens_step_132 : decode (zb m_Tokens_step) 132 = .ok (.iadd, 1) := zdal_p dlA_Tokens_step_74 (i := 14) rfl
theorem d_Tokens_step_133 : decode (zb m_Tokens_step) 133 = .ok (.putfield 28, 3) := zdal_p dlA_Tokens_step_74 (i := 15) rfl
theorem d_Tokens_step_136 : decode (zb m_Tokens_step) 136 = .ok (.return_, 1) := zdal_p dlA_Tokens_step_74 (i := 16) rfl
theorem dlA_Tokens_pastBlanks_75 : zdal (zb m_Tokens_pastBlanks) [(0, (.iload_n 1, 1)), (1, (.istore_n 2, 1)), (2, (.iload_n 2, 1)), (3, (.aload_n 0, 1)), (4, (.getfield 20, 3)), (7, (.if_icmp .ge 23, 3)), (10, (.aload_n 0, 1)), (11, (.getfield 14, 3)), (14, (.iload_n 2, 1)), (15, (.invokevirtual 47, 3)), (18, (.invokestatic 73, 3)), (21, (.ifCond .eq 9, 3)), (24, (.iinc 2 1, 3)), (27, (.goto (-25), 3)), (30, (.iload_n 2, 1)), (31, (.ireturn, 1))] = true := zDs 0 (by decide +kernel)
theorem d_Tokens_pastBlanks_0 : decode (zb m_Tokens_pastBlanks) 0 = .ok (.iload_n 1, 1) := zdal_p dlA_Tokens_pastBlanks_75 (i := 0) rfl
theorem d_Tokens_pastBlanks_1 : decode (zb m_Tokens_pastBlanks) 1 = .ok (.istore_n 2, 1) := zdal_p dlA_Tokens_pastBlanks_75 (i := 1) rfl
theorem d_Tokens_pastBlanks_2 : decode (zb m_Tokens_pastBlanks) 2 = .ok (.iload_n 2, 1) := zdal_p dlA_Tokens_pastBlanks_75 (i := 2) rfl
theorem d_Tokens_pastBlanks_3 : decode (zb m_Tokens_pastBlanks) 3 = .ok (.aload_n 0, 1) := zdal_p dlA_Tokens_pastBlanks_75 (i := 3) rfl
theorem d_Tokens_pastBlanks_4 : decode (zb m_Tokens_pastBlanks) 4 = .ok (.getfield 20, 3) := zdal_p dlA_Tokens_pastBlanks_75 (i := 4) rfl
theorem d_Tokens_pastBlanks_7 : decode (zb m_Tokens_pastBlanks) 7 = .ok (.if_icmp .ge 23, 3) := zdal_p dlA_Tokens_pastBlanks_75 (i := 5) rfl
theorem d_Tokens_pastBlanks_10 : decode (zb m_Tokens_pastBlanks) 10 = .ok (.aload_n 0, 1) := zdal_p dlA_Tokens_pastBlanks_75 (i := 6) rfl
theorem d_Tokens_pastBlanks_11 : decode (zb m_Tokens_pastBlanks) 11 = .ok (.getfield 14, 3) := zdal_p dlA_Tokens_pastBlanks_75 (i := 7) rfl
theorem d_Tokens_pastBlanks_14 : decode (zb m_Tokens_pastBlanks) 14 = .ok (.iload_n 2, 1) := zdal_p dlA_Tokens_pastBlanks_75 (i := 8) rfl
theorem d_Tokens_pastBlanks_15 : decode (zb m_Tokens_pastBlanks) 15 = .ok (.invokevirtual 47, 3) := zdal_p dlA_Tokens_pastBlanks_75 (i := 9) rfl
theorem d_Tokens_pastBlanks_18 : decode (zb m_Tokens_pastBlanks) 18 = .ok (.invokestatic 73, 3) := zdal_p dlA_Tokens_pastBlanks_75 (i := 10) rfl
theorem d_Tokens_pastBlanks_21 : decode (zb m_Tokens_pastBlanks) 21 = .ok (.ifCond .eq 9, 3) := zdal_p dlA_Tokens_pastBlanks_75 (i := 11) rfl
theorem d_Tokens_pastBlanks_24 : decode (zb m_Tokens_pastBlanks) 24 = .ok (.iinc 2 1, 3) := zdal_p dlA_Tokens_pastBlanks_75 (i := 12) rfl
theorem d_Tokens_pastBlanks_27 : decode (zb m_Tokens_pastBlanks) 27 = .ok (.goto (-25), 3) := zdal_p dlA_Tokens_pastBlanks_75 (i := 13) rfl
theorem d_Tokens_pastBlanks_30 : decode (zb m_Tokens_pastBlanks) 30 = .ok (.iload_n 2, 1) := zdal_p dlA_Tokens_pastBlanks_75 (i := 14) rfl
theorem d_Tokens_pastBlanks_31 : decode (zb m_Tokens_pastBlanks) 31 = .ok (.ireturn, 1) := zdal_p dlA_Tokens_pastBlanks_75 (i := 15) rfl
theorem dlA_Tokens_isBlank_76 : zdal (zb m_Tokens_isBlank) [(0, (.iload_n 0, 1)), (1, (.bipush 32, 2)), (3, (.if_icmp .eq 9, 3)), (6, (.iload_n 0, 1)), (7, (.bipush 10, 2)), (9, (.if_icmp .ne 7, 3)), (12, (.iconst 1, 1)), (13, (.goto 4, 3)), (16, (.iconst 0, 1)), (17, (.ireturn, 1))] = true := zDs 0 (by decide +kernel)
theorem d_Tokens_isBlank_0 : decode (zb m_Tokens_isBlank) 0 = .ok (.iload_n 0, 1) := zdal_p dlA_Tokens_isBlank_76 (i := 0) rfl
theorem d_Tokens_isBlank_1 : decode (zb m_Tokens_isBlank) 1 = .ok (.bipush 32, 2) := zdal_p dlA_Tokens_isBlank_76 (i := 1) rfl
theorem d_Tokens_isBlank_3 : decode (zb m_Tokens_isBlank) 3 = .ok (.if_icmp .eq 9, 3) := zdal_p dlA_Tokens_isBlank_76 (i := 2) rfl
theorem d_Tokens_isBlank_6 : decode (zb m_Tokens_isBlank) 6 = .ok (.iload_n 0, 1) := zdal_p dlA_Tokens_isBlank_76 (i := 3) rfl
theorem d_Tokens_isBlank_7 : decode (zb m_Tokens_isBlank) 7 = .ok (.bipush 10, 2) := zdal_p dlA_Tokens_isBlank_76 (i := 4) rfl
theorem d_Tokens_isBlank_9 : decode (zb m_Tokens_isBlank) 9 = .ok (.if_icmp .ne 7, 3) := zdal_p dlA_Tokens_isBlank_76 (i := 5) rfl
theorem d_Tokens_isBlank_12 : decode (zb m_Tokens_isBlank) 12 = .ok (.iconst 1, 1) := zdal_p dlA_Tokens_isBlank_76 (i := 6) rfl
theorem d_Tokens_isBlank_13 : decode (zb m_Tokens_isBlank) 13 = .ok (.goto 4, 3) := zdal_p dlA_Tokens_isBlank_76 (i := 7) rfl
theorem d_Tokens_isBlank_16 : decode (zb m_Tokens_isBlank) 16 = .ok (.iconst 0, 1) := zdal_p dlA_Tokens_isBlank_76 (i := 8) rfl
theorem d_Tokens_isBlank_17 : decode (zb m_Tokens_isBlank) 17 = .ok (.ireturn, 1) := zdal_p dlA_Tokens_isBlank_76 (i := 9) rfl
theorem dlA_Tokens_isLetter_77 : zdal (zb m_Tokens_isLetter) [(0, (.iload_n 0, 1)), (1, (.bipush 97, 2)), (3, (.if_icmp .lt 13, 3)), (6, (.iload_n 0, 1)), (7, (.bipush 122, 2)), (9, (.if_icmp .gt 7, 3)), (12, (.iconst 1, 1)), (13, (.goto 4, 3)), (16, (.iconst 0, 1)), (17, (.ireturn, 1))] = true := zDs 0 (by decide +kernel)
theorem d_Tokens_isLetter_0 : decode (zb m_Tokens_isLetter) 0 = .ok (.iload_n 0, 1) := zdal_p dlA_Tokens_isLetter_77 (i := 0) rfl
theorem d_Tokens_isLetter_1 : decode (zb m_Tokens_isLetter) 1 = .ok (.bipush 97, 2) := zdal_p dlA_Tokens_isLetter_77 (i := 1) rfl
theorem d_Tokens_isLetter_3 : decode (zb m_Tokens_isLetter) 3 = .ok (.if_icmp .lt 13, 3) := zdal_p dlA_Tokens_isLetter_77 (i := 2) rfl
theorem d_Tokens_isLetter_6 : decode (zb m_Tokens_isLetter) 6 = .ok (.iload_n 0, 1) := zdal_p dlA_Tokens_isLetter_77 (i := 3) rfl
theorem d_Tokens_isLetter_7 : decode (zb m_Tokens_isLetter) 7 = .ok (.bipush 122, 2) := zdal_p dlA_Tokens_isLetter_77 (i := 4) rfl
theorem d_Tokens_isLetter_9 : decode (zb m_Tokens_isLetter) 9 = .ok (.if_icmp .gt 7, 3) := zdal_p dlA_Tokens_isLetter_77 (i := 5) rfl
theorem d_Tokens_isLetter_12 : decode (zb m_Tokens_isLetter) 12 = .ok (.iconst 1, 1) := zdal_p dlA_Tokens_isLetter_77 (i := 6) rfl
theorem d_Tokens_isLetter_13 : decode (zb m_Tokens_isLetter) 13 = .ok (.goto 4, 3) := zdal_p dlA_Tokens_isLetter_77 (i := 7) rfl
theorem d_Tokens_isLetter_16 : decode (zb m_Tokens_isLetter) 16 = .ok (.iconst 0, 1) := zdal_p dlA_Tokens_isLetter_77 (i := 8) rfl
theorem d_Tokens_isLetter_17 : decode (zb m_Tokens_isLetter) 17 = .ok (.ireturn, 1) := zdal_p dlA_Tokens_isLetter_77 (i := 9) rfl
theorem dlA_Tokens_readWord_78 : zdal (zb m_Tokens_readWord) [(0, (.aload_n 0, 1)), (1, (.getfield 28, 3)), (4, (.aload_n 0, 1)), (5, (.getfield 20, 3)), (8, (.if_icmp .ge 61, 3)), (11, (.aload_n 0, 1)), (12, (.getfield 14, 3)), (15, (.aload_n 0, 1)), (16, (.getfield 28, 3)), (19, (.invokevirtual 47, 3)), (22, (.invokestatic 50, 3)), (25, (.ifCond .eq 44, 3)), (28, (.aload_n 0, 1)), (29, (.aload_n 0, 1)), (30, (.getfield 41, 3)), (33, (.bipush 27, 2)), (35, (.imul, 1)), (36, (.aload_n 0, 1)), (37, (.getfield 14, 3)), (40, (.aload_n 0, 1)), (41, (.getfield 28, 3)), (44, (.invokevirtual 47, 3)), (47, (.iadd, 1)), (48, (.bipush 97, 2))] = true := zDs 0 (by decide +kernel)
theorem d_Tokens_readWord_0 : decode (zb m_Tokens_readWord) 0 = .ok (.aload_n 0, 1) := zdal_p dlA_Tokens_readWord_78 (i := 0) rfl
theorem d_Tokens_readWord_1 : decode (zb m_Tokens_readWord) 1 = .ok (.getfield 28, 3) := zdal_p dlA_Tokens_readWord_78 (i := 1) rfl
theorem d_Tokens_readWord_4 : decode (zb m_Tokens_readWord) 4 = .ok (.aload_n 0, 1) := zdal_p dlA_Tokens_readWord_78 (i := 2) rfl
theorem d_Tokens_readWord_5 : decode (zb m_Tokens_readWord) 5 = .ok (.getfield 20, 3) := zdal_p dlA_Tokens_readWord_78 (i := 3) rfl
theorem d_Tokens_readWord_8 : decode (zb m_Tokens_readWord) 8 = .ok (.if_icmp .ge 61, 3) := zdal_p dlA_Tokens_readWord_78 (i := 4) rfl
theorem d_Tokens_readWord_11 : decode (zb m_Tokens_readWord) 11 = .ok (.aload_n 0, 1) := zdal_p dlA_Tokens_readWord_78 (i := 5) rfl
theorem d_Tokens_readWord_12 : decode (zb m_Tokens_readWord) 12 = .ok (.getfield 14, 3) := zdal_p dlA_Tokens_readWord_78 (i := 6) rfl
theorem d_Tokens_readWord_15 : decode (zb m_Tokens_readWord) 15 = .ok (.aload_n 0, 1) := zdal_p dlA_Tokens_readWord_78 (i := 7) rfl
theorem d_Tokens_readWord_16 : decode (zb m_Tokens_readWord) 16 = .ok (.getfield 28, 3) := zdal_p dlA_Tokens_readWord_78 (i := 8) rfl
theorem d_Tokens_readWord_19 : decode (zb m_Tokens_readWord) 19 = .ok (.invokevirtual 47, 3) := zdal_p dlA_Tokens_readWord_78 (i := 9) rfl
theorem d_Tokens_readWord_22 : decode (zb m_Tokens_readWord) 22 = .ok (.invokestatic 50, 3) := zdal_p dlA_Tokens_readWord_78 (i := 10) rfl
theorem d_Tokens_readWord_25 : decode (zb m_Tokens_readWord) 25 = .ok (.ifCond .eq 44, 3) := zdal_p dlA_Tokens_readWord_78 (i := 11) rfl
theorem d_Tokens_readWord_28 : decode (zb m_Tokens_readWord) 28 = .ok (.aload_n 0, 1) := zdal_p dlA_Tokens_readWord_78 (i := 12) rfl
theorem d_Tokens_readWord_29 : decode (zb m_Tokens_readWord) 29 = .ok (.aload_n 0, 1) := zdal_p dlA_Tokens_readWord_78 (i := 13) rfl
theorem d_Tokens_readWord_30 : decode (zb m_Tokens_readWord) 30 = .ok (.getfield 41, 3) := zdal_p dlA_Tokens_readWord_78 (i := 14) rfl
theorem d_Tokens_readWord_33 : decode (zb m_Tokens_readWord) 33 = .ok (.bipush 27, 2) := zdal_p dlA_Tokens_readWord_78 (i := 15) rfl
theorem d_Tokens_readWord_35 : decode (zb m_Tokens_readWord) 35 = .ok (.imul, 1) := zdal_p dlA_Tokens_readWord_78 (i := 16) rfl
theorem d_Tokens_readWord_36 : decode (zb m_Tokens_readWord) 36 = .ok (.aload_n 0, 1) := zdal_p dlA_Tokens_readWord_78 (i := 17) rfl
theorem d_Tokens_readWord_37 : decode (zb m_Tokens_readWord) 37 = .ok (.getfield 14, 3) := zdal_p dlA_Tokens_readWord_78 (i := 18) rfl
theorem d_Tokens_readWord_40 : decode (zb m_Tokens_readWord) 40 = .ok (.aload_n 0, 1) := zdal_p dlA_Tokens_readWord_78 (i := 19) rfl
theorem d_Tokens_readWord_41 : decode (zb m_Tokens_readWord) 41 = .ok (.getfield 28, 3) := zdal_p dlA_Tokens_readWord_78 (i := 20) rfl
theorem d_Tokens_readWord_44 : decode (zb m_Tokens_readWord) 44 = .ok (.invokevirtual 47, 3) := zdal_p dlA_Tokens_readWord_78 (i := 21) rfl
theorem d_Tokens_readWord_47 : decode (zb m_Tokens_readWord) 47 = .ok (.iadd, 1) := zdal_p dlA_Tokens_readWord_78 (i := 22) rfl
theorem d_Tokens_readWord_48 : decode (zb m_Tokens_readWord) 48 = .ok (.bipush 97, 2) := zdal_p dlA_Tokens_readWord_78 (i := 23) rfl
theorem dlA_Tokens_readWord_79 : zdal (zb m_Tokens_readWord) [(50, (.isub, 1)), (51, (.iconst 1, 1)), (52, (.iadd, 1)), (53, (.putfield 41, 3)), (56, (.aload_n 0, 1)), (57, (.dup, 1)), (58, (.getfield 28, 3)), (61, (.iconst 1, 1)), (62, (.iadd, 1)), (63, (.putfield 28, 3)), (66, (.goto (-66), 3)), (69, (.aload_n 0, 1)), (70, (.aload_n 0, 1)), (71, (.getfield 28, 3)), (74, (.aload_n 0, 1)), (75, (.getfield 38, 3)), (78, (.isub, 1)), (79, (.bipush 6, 2)), (81, (.if_icmp .gt 7, 3)), (84, (.iconst 1, 1)), (85, (.goto 4, 3)), (88, (.iconst 4, 1)), (89, (.putfield 44, 3)), (92, (.return_, 1))] = true := zDs 50 (by decide +kernel)
theorem d_Tokens_readWord_50 : decode (zb m_Tokens_readWord) 50 = .ok (.isub, 1) := zdal_p dlA_Tokens_readWord_79 (i := 0) rfl
theorem d_Tokens_readWord_51 : decode (zb m_Tokens_readWord) 51 = .ok (.iconst 1, 1) := zdal_p dlA_Tokens_readWord_79 (i := 1) rfl
theorem d_Tokens_readWord_52 : decode (zb m_Tokens_readWord) 52 = .ok (.iadd, 1) := zdal_p dlA_Tokens_readWord_79 (i := 2) rfl
theorem d_Tokens_readWord_53 : decode (zb m_Tokens_readWord) 53 = .ok (.putfield 41, 3) := zdal_p dlA_Tokens_readWord_79 (i := 3) rfl
theorem d_Tokens_readWord_56 : decode (zb m_Tokens_readWord) 56 = .ok (.aload_n 0, 1) := zdal_p dlA_Tokens_readWord_79 (i := 4) rfl
theorem d_Tokens_readWord_57 : decode (zb m_Tokens_readWord) 57 = .ok (.dup, 1) := zdal_p dlA_Tokens_readWord_79 (i := 5) rfl
theorem d_Tokens_readWord_58 : decode (zb m_Tokens_readWord) 58 = .ok (.getfield 28, 3) := zdal_p dlA_Tokens_readWord_79 (i := 6) rfl
theorem d_Tokens_readWord_61 : decode (zb m_Tokens_readWord) 61 = .ok (.iconst 1, 1) := zdal_p dlA_Tokens_readWord_79 (i := 7) rfl
theorem d_Tokens_readWord_62 : decode (zb m_Tokens_readWord) 62 = .ok (.iadd, 1) := zdal_p dlA_Tokens_readWord_79 (i := 8) rfl
theorem d_Tokens_readWord_63 : decode (zb m_Tokens_readWord) 63 = .ok (.putfield 28, 3) := zdal_p dlA_Tokens_readWord_79 (i := 9) rfl
theorem d_Tokens_readWord_66 : decode (zb m_Tokens_readWord) 66 = .ok (.goto (-66), 3) := zdal_p dlA_Tokens_readWord_79 (i := 10) rfl
theorem d_Tokens_readWord_69 : decode (zb m_Tokens_readWord) 69 = .ok (.aload_n 0, 1) := zdal_p dlA_Tokens_readWord_79 (i := 11) rfl
theorem d_Tokens_readWord_70 : decode (zb m_Tokens_readWord) 70 = .ok (.aload_n 0, 1) := zdal_p dlA_Tokens_readWord_79 (i := 12) rfl
theorem d_Tokens_readWord_71 : decode (zb m_Tokens_readWord) 71 = .ok (.getfield 28, 3) := zdal_p dlA_Tokens_readWord_79 (i := 13) rfl
theorem d_Tokens_readWord_74 : decode (zb m_Tokens_readWord) 74 = .ok (.aload_n 0, 1) := zdal_p dlA_Tokens_readWord_79 (i := 14) rfl
theorem d_Tokens_readWord_75 : decode (zb m_Tokens_readWord) 75 = .ok (.getfield 38, 3) := zdal_p dlA_Tokens_readWord_79 (i := 15) rfl
theorem d_Tokens_readWord_78 : decode (zb m_Tokens_readWord) 78 = .ok (.isub, 1) := zdal_p dlA_Tokens_readWord_79 (i := 16) rfl
theorem d_Tokens_readWord_79 : decode (zb m_Tokens_readWord) 79 = .ok (.bipush 6, 2) := zdal_p dlA_Tokens_readWord_79 (i := 17) rfl
theorem d_Tokens_readWord_81 : decode (zb m_Tokens_readWord) 81 = .ok (.if_icmp .gt 7, 3) := zdal_p dlA_Tokens_readWord_79 (i := 18) rfl
theorem d_Tokens_readWord_84 : decode (zb m_Tokens_readWord) 84 = .ok (.iconst 1, 1) := zdal_p dlA_Tokens_readWord_79 (i := 19) rfl
theorem d_Tokens_readWord_85 : decode (zb m_Tokens_readWord) 85 = .ok (.goto 4, 3) := zdal_p dlA_Tokens_readWord_79 (i := 20) rfl
theorem d_Tokens_readWord_88 : decode (zb m_Tokens_readWord) 88 = .ok (.iconst 4, 1) := zdal_p dlA_Tokens_readWord_79 (i := 21) rfl
theorem d_Tokens_readWord_89 : decode (zb m_Tokens_readWord) 89 = .ok (.putfield 44, 3) := zdal_p dlA_Tokens_readWord_79 (i := 22) rfl
theorem d_Tokens_readWord_92 : decode (zb m_Tokens_readWord) 92 = .ok (.return_, 1) := zdal_p dlA_Tokens_readWord_79 (i := 23) rfl
theorem dlA_Tokens_isDigit_80 : zdal (zb m_Tokens_isDigit) [(0, (.iload_n 0, 1)), (1, (.bipush 48, 2)), (3, (.if_icmp .lt 13, 3)), (6, (.iload_n 0, 1)), (7, (.bipush 57, 2)), (9, (.if_icmp .gt 7, 3)), (12, (.iconst 1, 1)), (13, (.goto 4, 3)), (16, (.iconst 0, 1)), (17, (.ireturn, 1))] = true := zDs 0 (by decide +kernel)
theorem d_Tokens_isDigit_0 : decode (zb m_Tokens_isDigit) 0 = .ok (.iload_n 0, 1) := zdal_p dlA_Tokens_isDigit_80 (i := 0) rfl
theorem d_Tokens_isDigit_1 : decode (zb m_Tokens_isDigit) 1 = .ok (.bipush 48, 2) := zdal_p dlA_Tokens_isDigit_80 (i := 1) rfl
theorem d_Tokens_isDigit_3 : decode (zb m_Tokens_isDigit) 3 = .ok (.if_icmp .lt 13, 3) := zdal_p dlA_Tokens_isDigit_80 (i := 2) rfl
theorem d_Tokens_isDigit_6 : decode (zb m_Tokens_isDigit) 6 = .ok (.iload_n 0, 1) := zdal_p dlA_Tokens_isDigit_80 (i := 3) rfl
theorem d_Tokens_isDigit_7 : decode (zb m_Tokens_isDigit) 7 = .ok (.bipush 57, 2) := zdal_p dlA_Tokens_isDigit_80 (i := 4) rfl
theorem d_Tokens_isDigit_9 : decode (zb m_Tokens_isDigit) 9 = .ok (.if_icmp .gt 7, 3) := zdal_p dlA_Tokens_isDigit_80 (i := 5) rfl
theorem d_Tokens_isDigit_12 : decode (zb m_Tokens_isDigit) 12 = .ok (.iconst 1, 1) := zdal_p dlA_Tokens_isDigit_80 (i := 6) rfl
theorem d_Tokens_isDigit_13 : decode (zb m_Tokens_isDigit) 13 = .ok (.goto 4, 3) := zdal_p dlA_Tokens_isDigit_80 (i := 7) rfl
theorem d_Tokens_isDigit_16 : decode (zb m_Tokens_isDigit) 16 = .ok (.iconst 0, 1) := zdal_p dlA_Tokens_isDigit_80 (i := 8) rfl
theorem d_Tokens_isDigit_17 : decode (zb m_Tokens_isDigit) 17 = .ok (.ireturn, 1) := zdal_p dlA_Tokens_isDigit_80 (i := 9) rfl
theorem dlA_Tokens_readNumber_81 : zdal (zb m_Tokens_readNumber) [(0, (.aload_n 0, 1)), (1, (.aload_n 0, 1)), (2, (.aload_n 0, 1)), (3, (.getfield 38, 3)), (6, (.invokevirtual 66, 3)), (9, (.putfield 28, 3)), (12, (.aload_n 0, 1)), (13, (.aload_n 0, 1)), (14, (.aload_n 0, 1)), (15, (.getfield 38, 3)), (18, (.aload_n 0, 1)), (19, (.getfield 28, 3)), (22, (.invokevirtual 69, 3)), (25, (.putfield 41, 3)), (28, (.aload_n 0, 1)), (29, (.getfield 28, 3)), (32, (.aload_n 0, 1)), (33, (.getfield 20, 3)), (36, (.if_icmp .ge 24, 3)), (39, (.aload_n 0, 1)), (40, (.getfield 14, 3)), (43, (.aload_n 0, 1)), (44, (.getfield 28, 3)), (47, (.invokevirtual 47, 3))] = true := zDs 0 (by decide +kernel)
theorem d_Tokens_readNumber_0 : decode (zb m_Tokens_readNumber) 0 = .ok (.aload_n 0, 1) := zdal_p dlA_Tokens_readNumber_81 (i := 0) rfl
theorem d_Tokens_readNumber_1 : decode (zb m_Tokens_readNumber) 1 = .ok (.aload_n 0, 1) := zdal_p dlA_Tokens_readNumber_81 (i := 1) rfl
theorem d_Tokens_readNumber_2 : decode (zb m_Tokens_readNumber) 2 = .ok (.aload_n 0, 1) := zdal_p dlA_Tokens_readNumber_81 (i := 2) rfl
theorem d_Tokens_readNumber_3 : decode (zb m_Tokens_readNumber) 3 = .ok (.getfield 38, 3) := zdal_p dlA_Tokens_readNumber_81 (i := 3) rfl
theorem d_Tokens_readNumber_6 : decode (zb m_Tokens_readNumber) 6 = .ok (.invokevirtual 66, 3) := zdal_p dlA_Tokens_readNumber_81 (i := 4) rfl
theorem d_Tokens_readNumber_9 : decode (zb m_Tokens_readNumber) 9 = .ok (.putfield 28, 3) := zdal_p dlA_Tokens_readNumber_81 (i := 5) rfl
theorem d_Tokens_readNumber_12 : decode (zb m_Tokens_readNumber) 12 = .ok (.aload_n 0, 1) := zdal_p dlA_Tokens_readNumber_81 (i := 6) rfl
theorem d_Tokens_readNumber_13 : decode (zb m_Tokens_readNumber) 13 = .ok (.aload_n 0, 1) := zdal_p dlA_Tokens_readNumber_81 (i := 7) rfl
theorem d_Tokens_readNumber_14 : decode (zb m_Tokens_readNumber) 14 = .ok (.aload_n 0, 1) := zdal_p dlA_Tokens_readNumber_81 (i := 8) rfl
theorem d_Tokens_readNumber_15 : decode (zb m_Tokens_readNumber) 15 = .ok (.getfield 38, 3) := zdal_p dlA_Tokens_readNumber_81 (i := 9) rfl
theorem d_Tokens_readNumber_18 : decode (zb m_Tokens_readNumber) 18 = .ok (.aload_n 0, 1) := zdal_p dlA_Tokens_readNumber_81 (i := 10) rfl
theorem d_Tokens_readNumber_19 : decode (zb m_Tokens_readNumber) 19 = .ok (.getfield 28, 3) := zdal_p dlA_Tokens_readNumber_81 (i := 11) rfl
theorem d_Tokens_readNumber_22 : decode (zb m_Tokens_readNumber) 22 = .ok (.invokevirtual 69, 3) := zdal_p dlA_Tokens_readNumber_81 (i := 12) rfl
theorem d_Tokens_readNumber_25 : decode (zb m_Tokens_readNumber) 25 = .ok (.putfield 41, 3) := zdal_p dlA_Tokens_readNumber_81 (i := 13) rfl
theorem d_Tokens_readNumber_28 : decode (zb m_Tokens_readNumber) 28 = .ok (.aload_n 0, 1) := zdal_p dlA_Tokens_readNumber_81 (i := 14) rfl
theorem d_Tokens_readNumber_29 : decode (zb m_Tokens_readNumber) 29 = .ok (.getfield 28, 3) := zdal_p dlA_Tokens_readNumber_81 (i := 15) rfl
theorem d_Tokens_readNumber_32 : decode (zb m_Tokens_readNumber) 32 = .ok (.aload_n 0, 1) := zdal_p dlA_Tokens_readNumber_81 (i := 16) rfl
theorem d_Tokens_readNumber_33 : decode (zb m_Tokens_readNumber) 33 = .ok (.getfield 20, 3) := zdal_p dlA_Tokens_readNumber_81 (i := 17) rfl
theorem d_Tokens_readNumber_36 : decode (zb m_Tokens_readNumber) 36 = .ok (.if_icmp .ge 24, 3) := zdal_p dlA_Tokens_readNumber_81 (i := 18) rfl
theorem d_Tokens_readNumber_39 : decode (zb m_Tokens_readNumber) 39 = .ok (.aload_n 0, 1) := zdal_p dlA_Tokens_readNumber_81 (i := 19) rfl
theorem d_Tokens_readNumber_40 : decode (zb m_Tokens_readNumber) 40 = .ok (.getfield 14, 3) := zdal_p dlA_Tokens_readNumber_81 (i := 20) rfl
theorem d_Tokens_readNumber_43 : decode (zb m_Tokens_readNumber) 43 = .ok (.aload_n 0, 1) := zdal_p dlA_Tokens_readNumber_81 (i := 21) rfl
theorem d_Tokens_readNumber_44 : decode (zb m_Tokens_readNumber) 44 = .ok (.getfield 28, 3) := zdal_p dlA_Tokens_readNumber_81 (i := 22) rfl
theorem d_Tokens_readNumber_47 : decode (zb m_Tokens_readNumber) 47 = .ok (.invokevirtual 47, 3) := zdal_p dlA_Tokens_readNumber_81 (i := 23) rfl
theorem dlA_Tokens_readNumber_82 : zdal (zb m_Tokens_readNumber) [(50, (.invokestatic 50, 3)), (53, (.ifCond .eq 7, 3)), (56, (.iconst 1, 1)), (57, (.goto 4, 3)), (60, (.iconst 0, 1)), (61, (.istore_n 1, 1)), (62, (.aload_n 0, 1)), (63, (.aload_n 0, 1)), (64, (.getfield 28, 3)), (67, (.aload_n 0, 1)), (68, (.getfield 38, 3)), (71, (.isub, 1)), (72, (.iconst 3, 1)), (73, (.if_icmp .gt 11, 3)), (76, (.iload_n 1, 1)), (77, (.ifCond .ne 7, 3)), (80, (.iconst 2, 1)), (81, (.goto 4, 3)), (84, (.iconst 4, 1)), (85, (.putfield 44, 3)), (88, (.return_, 1))] = true := zDs 50 (by decide +kernel)
theorem d_Tokens_readNumber_50 : decode (zb m_Tokens_readNumber) 50 = .ok (.invokestatic 50, 3) := zdal_p dlA_Tokens_readNumber_82 (i := 0) rfl
theorem d_Tokens_readNumber_53 : decode (zb m_Tokens_readNumber) 53 = .ok (.ifCond .eq 7, 3) := zdal_p dlA_Tokens_readNumber_82 (i := 1) rfl
theorem d_Tokens_readNumber_56 : decode (zb m_Tokens_readNumber) 56 = .ok (.iconst 1, 1) := zdal_p dlA_Tokens_readNumber_82 (i := 2) rfl
theorem d_Tokens_readNumber_57 : decode (zb m_Tokens_readNumber) 57 = .ok (.goto 4, 3) := zdal_p dlA_Tokens_readNumber_82 (i := 3) rfl
theorem d_Tokens_readNumber_60 : decode (zb m_Tokens_readNumber) 60 = .ok (.iconst 0, 1) := zdal_p dlA_Tokens_readNumber_82 (i := 4) rfl
theorem d_Tokens_readNumber_61 : decode (zb m_Tokens_readNumber) 61 = .ok (.istore_n 1, 1) := zdal_p dlA_Tokens_readNumber_82 (i := 5) rfl
theorem d_Tokens_readNumber_62 : decode (zb m_Tokens_readNumber) 62 = .ok (.aload_n 0, 1) := zdal_p dlA_Tokens_readNumber_82 (i := 6) rfl
theorem d_Tokens_readNumber_63 : decode (zb m_Tokens_readNumber) 63 = .ok (.aload_n 0, 1) := zdal_p dlA_Tokens_readNumber_82 (i := 7) rfl
theorem d_Tokens_readNumber_64 : decode (zb m_Tokens_readNumber) 64 = .ok (.getfield 28, 3) := zdal_p dlA_Tokens_readNumber_82 (i := 8) rfl
theorem d_Tokens_readNumber_67 : decode (zb m_Tokens_readNumber) 67 = .ok (.aload_n 0, 1) := zdal_p dlA_Tokens_readNumber_82 (i := 9) rfl
theorem d_Tokens_readNumber_68 : decode (zb m_Tokens_readNumber) 68 = .ok (.getfield 38, 3) := zdal_p dlA_Tokens_readNumber_82 (i := 10) rfl
theorem d_Tokens_readNumber_71 : decode (zb m_Tokens_readNumber) 71 = .ok (.isub, 1) := zdal_p dlA_Tokens_readNumber_82 (i := 11) rfl
theorem d_Tokens_readNumber_72 : decode (zb m_Tokens_readNumber) 72 = .ok (.iconst 3, 1) := zdal_p dlA_Tokens_readNumber_82 (i := 12) rfl
theorem d_Tokens_readNumber_73 : decode (zb m_Tokens_readNumber) 73 = .ok (.if_icmp .gt 11, 3) := zdal_p dlA_Tokens_readNumber_82 (i := 13) rfl
theorem d_Tokens_readNumber_76 : decode (zb m_Tokens_readNumber) 76 = .ok (.iload_n 1, 1) := zdal_p dlA_Tokens_readNumber_82 (i := 14) rfl
theorem d_Tokens_readNumber_77 : decode (zb m_Tokens_readNumber) 77 = .ok (.ifCond .ne 7, 3) := zdal_p dlA_Tokens_readNumber_82 (i := 15) rfl
theorem d_Tokens_readNumber_80 : decode (zb m_Tokens_readNumber) 80 = .ok (.iconst 2, 1) := zdal_p dlA_Tokens_readNumber_82 (i := 16) rfl
theorem d_Tokens_readNumber_81 : decode (zb m_Tokens_readNumber) 81 = .ok (.goto 4, 3) := zdal_p dlA_Tokens_readNumber_82 (i := 17) rfl
theorem d_Tokens_readNumber_84 : decode (zb m_Tokens_readNumber) 84 = .ok (.iconst 4, 1) := zdal_p dlA_Tokens_readNumber_82 (i := 18) rfl
theorem d_Tokens_readNumber_85 : decode (zb m_Tokens_readNumber) 85 = .ok (.putfield 44, 3) := zdal_p dlA_Tokens_readNumber_82 (i := 19) rfl
theorem d_Tokens_readNumber_88 : decode (zb m_Tokens_readNumber) 88 = .ok (.return_, 1) := zdal_p dlA_Tokens_readNumber_82 (i := 20) rfl
theorem dlA_Tokens_pastDigits_83 : zdal (zb m_Tokens_pastDigits) [(0, (.iload_n 1, 1)), (1, (.istore_n 2, 1)), (2, (.iload_n 2, 1)), (3, (.aload_n 0, 1)), (4, (.getfield 20, 3)), (7, (.if_icmp .ge 23, 3)), (10, (.aload_n 0, 1)), (11, (.getfield 14, 3)), (14, (.iload_n 2, 1)), (15, (.invokevirtual 47, 3)), (18, (.invokestatic 57, 3)), (21, (.ifCond .eq 9, 3)), (24, (.iinc 2 1, 3)), (27, (.goto (-25), 3)), (30, (.iload_n 2, 1)), (31, (.ireturn, 1))] = true := zDs 0 (by decide +kernel)
theorem d_Tokens_pastDigits_0 : decode (zb m_Tokens_pastDigits) 0 = .ok (.iload_n 1, 1) := zdal_p dlA_Tokens_pastDigits_83 (i := 0) rfl
theorem d_Tokens_pastDigits_1 : decode (zb m_Tokens_pastDigits) 1 = .ok (.istore_n 2, 1) := zdal_p dlA_Tokens_pastDigits_83 (i := 1) rfl
theorem d_Tokens_pastDigits_2 : decode (zb m_Tokens_pastDigits) 2 = .ok (.iload_n 2, 1) := zdal_p dlA_Tokens_pastDigits_83 (i := 2) rfl
theorem d_Tokens_pastDigits_3 : decode (zb m_Tokens_pastDigits) 3 = .ok (.aload_n 0, 1) := zdal_p dlA_Tokens_pastDigits_83 (i := 3) rfl
theorem d_Tokens_pastDigits_4 : decode (zb m_Tokens_pastDigits) 4 = .ok (.getfield 20, 3) := zdal_p dlA_Tokens_pastDigits_83 (i := 4) rfl
theorem d_Tokens_pastDigits_7 : decode (zb m_Tokens_pastDigits) 7 = .ok (.if_icmp .ge 23, 3) := zdal_p dlA_Tokens_pastDigits_83 (i := 5) rfl
theorem d_Tokens_pastDigits_10 : decode (zb m_Tokens_pastDigits) 10 = .ok (.aload_n 0, 1) := zdal_p dlA_Tokens_pastDigits_83 (i := 6) rfl
theorem d_Tokens_pastDigits_11 : decode (zb m_Tokens_pastDigits) 11 = .ok (.getfield 14, 3) := zdal_p dlA_Tokens_pastDigits_83 (i := 7) rfl
theorem d_Tokens_pastDigits_14 : decode (zb m_Tokens_pastDigits) 14 = .ok (.iload_n 2, 1) := zdal_p dlA_Tokens_pastDigits_83 (i := 8) rfl
theorem d_Tokens_pastDigits_15 : decode (zb m_Tokens_pastDigits) 15 = .ok (.invokevirtual 47, 3) := zdal_p dlA_Tokens_pastDigits_83 (i := 9) rfl
theorem d_Tokens_pastDigits_18 : decode (zb m_Tokens_pastDigits) 18 = .ok (.invokestatic 57, 3) := zdal_p dlA_Tokens_pastDigits_83 (i := 10) rfl
theorem d_Tokens_pastDigits_21 : decode (zb m_Tokens_pastDigits) 21 = .ok (.ifCond .eq 9, 3) := zdal_p dlA_Tokens_pastDigits_83 (i := 11) rfl
theorem d_Tokens_pastDigits_24 : decode (zb m_Tokens_pastDigits) 24 = .ok (.iinc 2 1, 3) := zdal_p dlA_Tokens_pastDigits_83 (i := 12) rfl
theorem d_Tokens_pastDigits_27 : decode (zb m_Tokens_pastDigits) 27 = .ok (.goto (-25), 3) := zdal_p dlA_Tokens_pastDigits_83 (i := 13) rfl
theorem d_Tokens_pastDigits_30 : decode (zb m_Tokens_pastDigits) 30 = .ok (.iload_n 2, 1) := zdal_p dlA_Tokens_pastDigits_83 (i := 14) rfl
theorem d_Tokens_pastDigits_31 : decode (zb m_Tokens_pastDigits) 31 = .ok (.ireturn, 1) := zdal_p dlA_Tokens_pastDigits_83 (i := 15) rfl
theorem dlA_Tokens_numberFrom_84 : zdal (zb m_Tokens_numberFrom) [(0, (.iconst 0, 1)), (1, (.istore_n 3, 1)), (2, (.iload_n 1, 1)), (3, (.istore 4, 2)), (5, (.iload 4, 2)), (7, (.iload_n 2, 1)), (8, (.if_icmp .ge 27, 3)), (11, (.iload_n 3, 1)), (12, (.bipush 10, 2)), (14, (.imul, 1)), (15, (.aload_n 0, 1)), (16, (.getfield 14, 3)), (19, (.iload 4, 2)), (21, (.invokevirtual 47, 3)), (24, (.iadd, 1)), (25, (.bipush 48, 2)), (27, (.isub, 1)), (28, (.istore_n 3, 1)), (29, (.iinc 4 1, 3)), (32, (.goto (-27), 3)), (35, (.iload_n 3, 1)), (36, (.ireturn, 1))] = true := zDs 0 (by decide +kernel)
theorem d_Tokens_numberFrom_0 : decode (zb m_Tokens_numberFrom) 0 = .ok (.iconst 0, 1) := zdal_p dlA_Tokens_numberFrom_84 (i := 0) rfl
theorem d_Tokens_numberFrom_1 : decode (zb m_Tokens_numberFrom) 1 = .ok (.istore_n 3, 1) := zdal_p dlA_Tokens_numberFrom_84 (i := 1) rfl
theorem d_Tokens_numberFrom_2 : decode (zb m_Tokens_numberFrom) 2 = .ok (.iload_n 1, 1) := zdal_p dlA_Tokens_numberFrom_84 (i := 2) rfl
theorem d_Tokens_numberFrom_3 : decode (zb m_Tokens_numberFrom) 3 = .ok (.istore 4, 2) := zdal_p dlA_Tokens_numberFrom_84 (i := 3) rfl
theorem d_Tokens_numberFrom_5 : decode (zb m_Tokens_numberFrom) 5 = .ok (.iload 4, 2) := zdal_p dlA_Tokens_numberFrom_84 (i := 4) rfl
theorem d_Tokens_numberFrom_7 : decode (zb m_Tokens_numberFrom) 7 = .ok (.iload_n 2, 1) := zdal_p dlA_Tokens_numberFrom_84 (i := 5) rfl
theorem d_Tokens_numberFrom_8 : decode (zb m_Tokens_numberFrom) 8 = .ok (.if_icmp .ge 27, 3) := zdal_p dlA_Tokens_numberFrom_84 (i := 6) rfl
theorem d_Tokens_numberFrom_11 : decode (zb m_Tokens_numberFrom) 11 = .ok (.iload_n 3, 1) := zdal_p dlA_Tokens_numberFrom_84 (i := 7) rfl
theorem d_Tokens_numberFrom_12 : decode (zb m_Tokens_numberFrom) 12 = .ok (.bipush 10, 2) := zdal_p dlA_Tokens_numberFrom_84 (i := 8) rfl
theorem d_Tokens_numberFrom_14 : decode (zb m_Tokens_numberFrom) 14 = .ok (.imul, 1) := zdal_p dlA_Tokens_numberFrom_84 (i := 9) rfl
theorem d_Tokens_numberFrom_15 : decode (zb m_Tokens_numberFrom) 15 = .ok (.aload_n 0, 1) := zdal_p dlA_Tokens_numberFrom_84 (i := 10) rfl
theorem d_Tokens_numberFrom_16 : decode (zb m_Tokens_numberFrom) 16 = .ok (.getfield 14, 3) := zdal_p dlA_Tokens_numberFrom_84 (i := 11) rfl
theorem d_Tokens_numberFrom_19 : decode (zb m_Tokens_numberFrom) 19 = .ok (.iload 4, 2) := zdal_p dlA_Tokens_numberFrom_84 (i := 12) rfl
theorem d_Tokens_numberFrom_21 : decode (zb m_Tokens_numberFrom) 21 = .ok (.invokevirtual 47, 3) := zdal_p dlA_Tokens_numberFrom_84 (i := 13) rfl
theorem d_Tokens_numberFrom_24 : decode (zb m_Tokens_numberFrom) 24 = .ok (.iadd, 1) := zdal_p dlA_Tokens_numberFrom_84 (i := 14) rfl
theorem d_Tokens_numberFrom_25 : decode (zb m_Tokens_numberFrom) 25 = .ok (.bipush 48, 2) := zdal_p dlA_Tokens_numberFrom_84 (i := 15) rfl
theorem d_Tokens_numberFrom_27 : decode (zb m_Tokens_numberFrom) 27 = .ok (.isub, 1) := zdal_p dlA_Tokens_numberFrom_84 (i := 16) rfl
theorem d_Tokens_numberFrom_28 : decode (zb m_Tokens_numberFrom) 28 = .ok (.istore_n 3, 1) := zdal_p dlA_Tokens_numberFrom_84 (i := 17) rfl
theorem d_Tokens_numberFrom_29 : decode (zb m_Tokens_numberFrom) 29 = .ok (.iinc 4 1, 3) := zdal_p dlA_Tokens_numberFrom_84 (i := 18) rfl
theorem d_Tokens_numberFrom_32 : decode (zb m_Tokens_numberFrom) 32 = .ok (.goto (-27), 3) := zdal_p dlA_Tokens_numberFrom_84 (i := 19) rfl
theorem d_Tokens_numberFrom_35 : decode (zb m_Tokens_numberFrom) 35 = .ok (.iload_n 3, 1) := zdal_p dlA_Tokens_numberFrom_84 (i := 20) rfl
theorem d_Tokens_numberFrom_36 : decode (zb m_Tokens_numberFrom) 36 = .ok (.ireturn, 1) := zdal_p dlA_Tokens_numberFrom_84 (i := 21) rfl
theorem dlA_Tokens_isSignByte_85 : zdal (zb m_Tokens_isSignByte) [(0, (.iload_n 0, 1)), (1, (.bipush 61, 2)), (3, (.if_icmp .eq 45, 3)), (6, (.iload_n 0, 1)), (7, (.bipush 43, 2)), (9, (.if_icmp .eq 39, 3)), (12, (.iload_n 0, 1)), (13, (.bipush 45, 2)), (15, (.if_icmp .eq 33, 3)), (18, (.iload_n 0, 1)), (19, (.bipush 42, 2)), (21, (.if_icmp .eq 27, 3)), (24, (.iload_n 0, 1)), (25, (.bipush 94, 2)), (27, (.if_icmp .eq 21, 3)), (30, (.iload_n 0, 1)), (31, (.bipush 40, 2)), (33, (.if_icmp .eq 15, 3)), (36, (.iload_n 0, 1)), (37, (.bipush 41, 2)), (39, (.if_icmp .eq 9, 3)), (42, (.iload_n 0, 1)), (43, (.bipush 59, 2)), (45, (.if_icmp .ne 7, 3))] = true := zDs 0 (by decide +kernel)
theorem d_Tokens_isSignByte_0 : decode (zb m_Tokens_isSignByte) 0 = .ok (.iload_n 0, 1) := zdal_p dlA_Tokens_isSignByte_85 (i := 0) rfl
theorem d_Tokens_isSignByte_1 : decode (zb m_Tokens_isSignByte) 1 = .ok (.bipush 61, 2) := zdal_p dlA_Tokens_isSignByte_85 (i := 1) rfl
theorem d_Tokens_isSignByte_3 : decode (zb m_Tokens_isSignByte) 3 = .ok (.if_icmp .eq 45, 3) := zdal_p dlA_Tokens_isSignByte_85 (i := 2) rfl
theorem d_Tokens_isSignByte_6 : decode (zb m_Tokens_isSignByte) 6 = .ok (.iload_n 0, 1) := zdal_p dlA_Tokens_isSignByte_85 (i := 3) rfl
theorem d_Tokens_isSignByte_7 : decode (zb m_Tokens_isSignByte) 7 = .ok (.bipush 43, 2) := zdal_p dlA_Tokens_isSignByte_85 (i := 4) rfl
theorem d_Tokens_isSignByte_9 : decode (zb m_Tokens_isSignByte) 9 = .ok (.if_icmp .eq 39, 3) := zdal_p dlA_Tokens_isSignByte_85 (i := 5) rfl
theorem d_Tokens_isSignByte_12 : decode (zb m_Tokens_isSignByte) 12 = .ok (.iload_n 0, 1) := zdal_p dlA_Tokens_isSignByte_85 (i := 6) rfl
theorem d_Tokens_isSignByte_13 : decode (zb m_Tokens_isSignByte) 13 = .ok (.bipush 45, 2) := zdal_p dlA_Tokens_isSignByte_85 (i := 7) rfl
theorem d_Tokens_isSignByte_15 : decode (zb m_Tokens_isSignByte) 15 = .ok (.if_icmp .eq 33, 3) := zdal_p dlA_Tokens_isSignByte_85 (i := 8) rfl
theorem d_Tokens_isSignByte_18 : decode (zb m_Tokens_isSignByte) 18 = .ok (.iload_n 0, 1) := zdal_p dlA_Tokens_isSignByte_85 (i := 9) rfl
theorem d_Tokens_isSignByte_19 : decode (zb m_Tokens_isSignByte) 19 = .ok (.bipush 42, 2) := zdal_p dlA_Tokens_isSignByte_85 (i := 10) rfl
theorem d_Tokens_isSignByte_21 : decode (zb m_Tokens_isSignByte) 21 = .ok (.if_icmp .eq 27, 3) := zdal_p dlA_Tokens_isSignByte_85 (i := 11) rfl
theorem d_Tokens_isSignByte_24 : decode (zb m_Tokens_isSignByte) 24 = .ok (.iload_n 0, 1) := zdal_p dlA_Tokens_isSignByte_85 (i := 12) rfl
theorem d_Tokens_isSignByte_25 : decode (zb m_Tokens_isSignByte) 25 = .ok (.bipush 94, 2) := zdal_p dlA_Tokens_isSignByte_85 (i := 13) rfl
theorem d_Tokens_isSignByte_27 : decode (zb m_Tokens_isSignByte) 27 = .ok (.if_icmp .eq 21, 3) := zdal_p dlA_Tokens_isSignByte_85 (i := 14) rfl
theorem d_Tokens_isSignByte_30 : decode (zb m_Tokens_isSignByte) 30 = .ok (.iload_n 0, 1) := zdal_p dlA_Tokens_isSignByte_85 (i := 15) rfl
theorem d_Tokens_isSignByte_31 : decode (zb m_Tokens_isSignByte) 31 = .ok (.bipush 40, 2) := zdal_p dlA_Tokens_isSignByte_85 (i := 16) rfl
theorem d_Tokens_isSignByte_33 : decode (zb m_Tokens_isSignByte) 33 = .ok (.if_icmp .eq 15, 3) := zdal_p dlA_Tokens_isSignByte_85 (i := 17) rfl
theorem d_Tokens_isSignByte_36 : decode (zb m_Tokens_isSignByte) 36 = .ok (.iload_n 0, 1) := zdal_p dlA_Tokens_isSignByte_85 (i := 18) rfl
theorem d_Tokens_isSignByte_37 : decode (zb m_Tokens_isSignByte) 37 = .ok (.bipush 41, 2) := zdal_p dlA_Tokens_isSignByte_85 (i := 19) rfl
theorem d_Tokens_isSignByte_39 : decode (zb m_Tokens_isSignByte) 39 = .ok (.if_icmp .eq 9, 3) := zdal_p dlA_Tokens_isSignByte_85 (i := 20) rfl
theorem d_Tokens_isSignByte_42 : decode (zb m_Tokens_isSignByte) 42 = .ok (.iload_n 0, 1) := zdal_p dlA_Tokens_isSignByte_85 (i := 21) rfl
theorem d_Tokens_isSignByte_43 : decode (zb m_Tokens_isSignByte) 43 = .ok (.bipush 59, 2) := zdal_p dlA_Tokens_isSignByte_85 (i := 22) rfl
theorem d_Tokens_isSignByte_45 : decode (zb m_Tokens_isSignByte) 45 = .ok (.if_icmp .ne 7, 3) := zdal_p dlA_Tokens_isSignByte_85 (i := 23) rfl
theorem dlA_Tokens_isSignByte_86 : zdal (zb m_Tokens_isSignByte) [(48, (.iconst 1, 1)), (49, (.goto 4, 3)), (52, (.iconst 0, 1)), (53, (.ireturn, 1))] = true := zDs 48 (by decide +kernel)
theorem d_Tokens_isSignByte_48 : decode (zb m_Tokens_isSignByte) 48 = .ok (.iconst 1, 1) := zdal_p dlA_Tokens_isSignByte_86 (i := 0) rfl
theorem d_Tokens_isSignByte_49 : decode (zb m_Tokens_isSignByte) 49 = .ok (.goto 4, 3) := zdal_p dlA_Tokens_isSignByte_86 (i := 1) rfl
theorem d_Tokens_isSignByte_52 : decode (zb m_Tokens_isSignByte) 52 = .ok (.iconst 0, 1) := zdal_p dlA_Tokens_isSignByte_86 (i := 2) rfl
theorem d_Tokens_isSignByte_53 : decode (zb m_Tokens_isSignByte) 53 = .ok (.ireturn, 1) := zdal_p dlA_Tokens_isSignByte_86 (i := 3) rfl
theorem dlA_Reader_readPlaces_87 : zdal (zb m_Reader_readPlaces) [(0, (.aload_n 0, 1)), (1, (.getfield 15, 3)), (4, (.ldc 47, 2)), (6, (.invokevirtual 49, 3)), (9, (.ifCond .ne 9, 3)), (12, (.aload_n 0, 1)), (13, (.iconst 2, 1)), (14, (.invokevirtual 41, 3)), (17, (.ireturn, 1)), (18, (.aload_n 0, 1)), (19, (.getfield 15, 3)), (22, (.invokevirtual 44, 3)), (25, (.aload_n 0, 1)), (26, (.getfield 15, 3)), (29, (.invokevirtual 53, 3)), (32, (.ifCond .ne 9, 3)), (35, (.aload_n 0, 1)), (36, (.iconst 2, 1)), (37, (.invokevirtual 41, 3)), (40, (.ireturn, 1)), (41, (.aload_n 0, 1)), (42, (.getfield 15, 3)), (45, (.getfield 57, 3)), (48, (.iconst 1, 1))] = true := zDs 0 (by decide +kernel)
theorem d_Reader_readPlaces_0 : decode (zb m_Reader_readPlaces) 0 = .ok (.aload_n 0, 1) := zdal_p dlA_Reader_readPlaces_87 (i := 0) rfl
theorem d_Reader_readPlaces_1 : decode (zb m_Reader_readPlaces) 1 = .ok (.getfield 15, 3) := zdal_p dlA_Reader_readPlaces_87 (i := 1) rfl
theorem d_Reader_readPlaces_4 : decode (zb m_Reader_readPlaces) 4 = .ok (.ldc 47, 2) := zdal_p dlA_Reader_readPlaces_87 (i := 2) rfl
theorem d_Reader_readPlaces_6 : decode (zb m_Reader_readPlaces) 6 = .ok (.invokevirtual 49, 3) := zdal_p dlA_Reader_readPlaces_87 (i := 3) rfl
theorem d_Reader_readPlaces_9 : decode (zb m_Reader_readPlaces) 9 = .ok (.ifCond .ne 9, 3) := zdal_p dlA_Reader_readPlaces_87 (i := 4) rfl
theorem d_Reader_readPlaces_12 : decode (zb m_Reader_readPlaces) 12 = .ok (.aload_n 0, 1) := zdal_p dlA_Reader_readPlaces_87 (i := 5) rfl
theorem d_Reader_readPlaces_13 : decode (zb m_Reader_readPlaces) 13 = .ok (.iconst 2, 1) := zdal_p dlA_Reader_readPlaces_87 (i := 6) rfl
theorem d_Reader_readPlaces_14 : decode (zb m_Reader_readPlaces) 14 = .ok (.invokevirtual 41, 3) := zdal_p dlA_Reader_readPlaces_87 (i := 7) rfl
theorem d_Reader_readPlaces_17 : decode (zb m_Reader_readPlaces) 17 = .ok (.ireturn, 1) := zdal_p dlA_Reader_readPlaces_87 (i := 8) rfl
theorem d_Reader_readPlaces_18 : decode (zb m_Reader_readPlaces) 18 = .ok (.aload_n 0, 1) := zdal_p dlA_Reader_readPlaces_87 (i := 9) rfl
theorem d_Reader_readPlaces_19 : decode (zb m_Reader_readPlaces) 19 = .ok (.getfield 15, 3) := zdal_p dlA_Reader_readPlaces_87 (i := 10) rfl
theorem d_Reader_readPlaces_22 : decode (zb m_Reader_readPlaces) 22 = .ok (.invokevirtual 44, 3) := zdal_p dlA_Reader_readPlaces_87 (i := 11) rfl
theorem d_Reader_readPlaces_25 : decode (zb m_Reader_readPlaces) 25 = .ok (.aload_n 0, 1) := zdal_p dlA_Reader_readPlaces_87 (i := 12) rfl
theorem d_Reader_readPlaces_26 : decode (zb m_Reader_readPlaces) 26 = .ok (.getfield 15, 3) := zdal_p dlA_Reader_readPlaces_87 (i := 13) rfl
theorem d_Reader_readPlaces_29 : decode (zb m_Reader_readPlaces) 29 = .ok (.invokevirtual 53, 3) := zdal_p dlA_Reader_readPlaces_87 (i := 14) rfl
theorem d_Reader_readPlaces_32 : decode (zb m_Reader_readPlaces) 32 = .ok (.ifCond .ne 9, 3) := zdal_p dlA_Reader_readPlaces_87 (i := 15) rfl
theorem d_Reader_readPlaces_35 : decode (zb m_Reader_readPlaces) 35 = .ok (.aload_n 0, 1) := zdal_p dlA_Reader_readPlaces_87 (i := 16) rfl
theorem d_Reader_readPlaces_36 : decode (zb m_Reader_readPlaces) 36 = .ok (.iconst 2, 1) := zdal_p dlA_Reader_readPlaces_87 (i := 17) rfl
theorem d_Reader_readPlaces_37 : decode (zb m_Reader_readPlaces) 37 = .ok (.invokevirtual 41, 3) := zdal_p dlA_Reader_readPlaces_87 (i := 18) rfl
theorem d_Reader_readPlaces_40 : decode (zb m_Reader_readPlaces) 40 = .ok (.ireturn, 1) := zdal_p dlA_Reader_readPlaces_87 (i := 19) rfl
theorem d_Reader_readPlaces_41 : decode (zb m_Reader_readPlaces) 41 = .ok (.aload_n 0, 1) := zdal_p dlA_Reader_readPlaces_87 (i := 20) rfl
theorem d_Reader_readPlaces_42 : decode (zb m_Reader_readPlaces) 42 = .ok (.getfield 15, 3) := zdal_p dlA_Reader_readPlaces_87 (i := 21) rfl
theorem d_Reader_readPlaces_45 : decode (zb m_Reader_readPlaces) 45 = .ok (.getfield 57, 3) := zdal_p dlA_Reader_readPlaces_87 (i := 22) rfl
theorem d_Reader_readPlaces_48 : decode (zb m_Reader_readPlaces) 48 = .ok (.iconst 1, 1) := zdal_p dlA_Reader_readPlaces_87 (i := 23) rfl
theorem dlA_Reader_readPlaces_88 : zdal (zb m_Reader_readPlaces) [(49, (.if_icmp .lt 15, 3)), (52, (.aload_n 0, 1)), (53, (.getfield 15, 3)), (56, (.getfield 57, 3)), (59, (.bipush 6, 2)), (61, (.if_icmp .le 9, 3)), (64, (.aload_n 0, 1)), (65, (.iconst 4, 1)), (66, (.invokevirtual 41, 3)), (69, (.ireturn, 1)), (70, (.aload_n 1, 1)), (71, (.aload_n 0, 1)), (72, (.getfield 15, 3)), (75, (.getfield 57, 3)), (78, (.invokevirtual 60, 3)), (81, (.aload_n 0, 1)), (82, (.getfield 15, 3)), (85, (.invokevirtual 44, 3)), (88, (.aload_n 0, 1)), (89, (.bipush 59, 2)), (91, (.invokevirtual 66, 3)), (94, (.ireturn, 1))] = true := zDs 49 (by decide +kernel)
theorem d_Reader_readPlaces_49 : decode (zb m_Reader_readPlaces) 49 = .ok (.if_icmp .lt 15, 3) := zdal_p dlA_Reader_readPlaces_88 (i := 0) rfl
theorem d_Reader_readPlaces_52 : decode (zb m_Reader_readPlaces) 52 = .ok (.aload_n 0, 1) := zdal_p dlA_Reader_readPlaces_88 (i := 1) rfl
theorem d_Reader_readPlaces_53 : decode (zb m_Reader_readPlaces) 53 = .ok (.getfield 15, 3) := zdal_p dlA_Reader_readPlaces_88 (i := 2) rfl
theorem d_Reader_readPlaces_56 : decode (zb m_Reader_readPlaces) 56 = .ok (.getfield 57, 3) := zdal_p dlA_Reader_readPlaces_88 (i := 3) rfl
theorem d_Reader_readPlaces_59 : decode (zb m_Reader_readPlaces) 59 = .ok (.bipush 6, 2) := zdal_p dlA_Reader_readPlaces_88 (i := 4) rfl
theorem d_Reader_readPlaces_61 : decode (zb m_Reader_readPlaces) 61 = .ok (.if_icmp .le 9, 3) := zdal_p dlA_Reader_readPlaces_88 (i := 5) rfl
theorem d_Reader_readPlaces_64 : decode (zb m_Reader_readPlaces) 64 = .ok (.aload_n 0, 1) := zdal_p dlA_Reader_readPlaces_88 (i := 6) rfl
theorem d_Reader_readPlaces_65 : decode (zb m_Reader_readPlaces) 65 = .ok (.iconst 4, 1) := zdal_p dlA_Reader_readPlaces_88 (i := 7) rfl
theorem d_Reader_readPlaces_66 : decode (zb m_Reader_readPlaces) 66 = .ok (.invokevirtual 41, 3) := zdal_p dlA_Reader_readPlaces_88 (i := 8) rfl
theorem d_Reader_readPlaces_69 : decode (zb m_Reader_readPlaces) 69 = .ok (.ireturn, 1) := zdal_p dlA_Reader_readPlaces_88 (i := 9) rfl
theorem d_Reader_readPlaces_70 : decode (zb m_Reader_readPlaces) 70 = .ok (.aload_n 1, 1) := zdal_p dlA_Reader_readPlaces_88 (i := 10) rfl
theorem d_Reader_readPlaces_71 : decode (zb m_Reader_readPlaces) 71 = .ok (.aload_n 0, 1) := zdal_p dlA_Reader_readPlaces_88 (i := 11) rfl
theorem d_Reader_readPlaces_72 : decode (zb m_Reader_readPlaces) 72 = .ok (.getfield 15, 3) := zdal_p dlA_Reader_readPlaces_88 (i := 12) rfl
theorem d_Reader_readPlaces_75 : decode (zb m_Reader_readPlaces) 75 = .ok (.getfield 57, 3) := zdal_p dlA_Reader_readPlaces_88 (i := 13) rfl
theorem d_Reader_readPlaces_78 : decode (zb m_Reader_readPlaces) 78 = .ok (.invokevirtual 60, 3) := zdal_p dlA_Reader_readPlaces_88 (i := 14) rfl
theorem d_Reader_readPlaces_81 : decode (zb m_Reader_readPlaces) 81 = .ok (.aload_n 0, 1) := zdal_p dlA_Reader_readPlaces_88 (i := 15) rfl
theorem d_Reader_readPlaces_82 : decode (zb m_Reader_readPlaces) 82 = .ok (.getfield 15, 3) := zdal_p dlA_Reader_readPlaces_88 (i := 16) rfl
theorem d_Reader_readPlaces_85 : decode (zb m_Reader_readPlaces) 85 = .ok (.invokevirtual 44, 3) := zdal_p dlA_Reader_readPlaces_88 (i := 17) rfl
theorem d_Reader_readPlaces_88 : decode (zb m_Reader_readPlaces) 88 = .ok (.aload_n 0, 1) := zdal_p dlA_Reader_readPlaces_88 (i := 18) rfl
theorem d_Reader_readPlaces_89 : decode (zb m_Reader_readPlaces) 89 = .ok (.bipush 59, 2) := zdal_p dlA_Reader_readPlaces_88 (i := 19) rfl
theorem d_Reader_readPlaces_91 : decode (zb m_Reader_readPlaces) 91 = .ok (.invokevirtual 66, 3) := zdal_p dlA_Reader_readPlaces_88 (i := 20) rfl
theorem d_Reader_readPlaces_94 : decode (zb m_Reader_readPlaces) 94 = .ok (.ireturn, 1) := zdal_p dlA_Reader_readPlaces_88 (i := 21) rfl
theorem dlA_Tokens_isWord_89 : zdal (zb m_Tokens_isWord) [(0, (.aload_n 0, 1)), (1, (.getfield 44, 3)), (4, (.iconst 1, 1)), (5, (.if_icmp .ne 19, 3)), (8, (.aload_n 1, 1)), (9, (.invokevirtual 76, 3)), (12, (.aload_n 0, 1)), (13, (.getfield 28, 3)), (16, (.aload_n 0, 1)), (17, (.getfield 38, 3)), (20, (.isub, 1)), (21, (.if_icmp .eq 5, 3)), (24, (.iconst 0, 1)), (25, (.ireturn, 1)), (26, (.iconst 0, 1)), (27, (.istore_n 2, 1)), (28, (.iload_n 2, 1)), (29, (.aload_n 1, 1)), (30, (.invokevirtual 76, 3)), (33, (.if_icmp .ge 32, 3)), (36, (.aload_n 0, 1)), (37, (.getfield 14, 3)), (40, (.aload_n 0, 1)), (41, (.getfield 38, 3))] = true := zDs 0 (by decide +kernel)
theorem d_Tokens_isWord_0 : decode (zb m_Tokens_isWord) 0 = .ok (.aload_n 0, 1) := zdal_p dlA_Tokens_isWord_89 (i := 0) rfl
theorem d_Tokens_isWord_1 : decode (zb m_Tokens_isWord) 1 = .ok (.getfield 44, 3) := zdal_p dlA_Tokens_isWord_89 (i := 1) rfl
theorem d_Tokens_isWord_4 : decode (zb m_Tokens_isWord) 4 = .ok (.iconst 1, 1) := zdal_p dlA_Tokens_isWord_89 (i := 2) rfl
theorem d_Tokens_isWord_5 : decode (zb m_Tokens_isWord) 5 = .ok (.if_icmp .ne 19, 3) := zdal_p dlA_Tokens_isWord_89 (i := 3) rfl
theorem d_Tokens_isWord_8 : decode (zb m_Tokens_isWord) 8 = .ok (.aload_n 1, 1) := zdal_p dlA_Tokens_isWord_89 (i := 4) rfl
theorem d_Tokens_isWord_9 : decode (zb m_Tokens_isWord) 9 = .ok (.invokevirtual 76, 3) := zdal_p dlA_Tokens_isWord_89 (i := 5) rfl
theorem d_Tokens_isWord_12 : decode (zb m_Tokens_isWord) 12 = .ok (.aload_n 0, 1) := zdal_p dlA_Tokens_isWord_89 (i := 6) rfl
theorem d_Tokens_isWord_13 : decode (zb m_Tokens_isWord) 13 = .ok (.getfield 28, 3) := zdal_p dlA_Tokens_isWord_89 (i := 7) rfl
theorem d_Tokens_isWord_16 : decode (zb m_Tokens_isWord) 16 = .ok (.aload_n 0, 1) := zdal_p dlA_Tokens_isWord_89 (i := 8) rfl
theorem d_Tokens_isWord_17 : decode (zb m_Tokens_isWord) 17 = .ok (.getfield 38, 3) := zdal_p dlA_Tokens_isWord_89 (i := 9) rfl
theorem d_Tokens_isWord_20 : decode (zb m_Tokens_isWord) 20 = .ok (.isub, 1) := zdal_p dlA_Tokens_isWord_89 (i := 10) rfl
theorem d_Tokens_isWord_21 : decode (zb m_Tokens_isWord) 21 = .ok (.if_icmp .eq 5, 3) := zdal_p dlA_Tokens_isWord_89 (i := 11) rfl
theorem d_Tokens_isWord_24 : decode (zb m_Tokens_isWord) 24 = .ok (.iconst 0, 1) := zdal_p dlA_Tokens_isWord_89 (i := 12) rfl
theorem d_Tokens_isWord_25 : decode (zb m_Tokens_isWord) 25 = .ok (.ireturn, 1) := zdal_p dlA_Tokens_isWord_89 (i := 13) rfl
theorem d_Tokens_isWord_26 : decode (zb m_Tokens_isWord) 26 = .ok (.iconst 0, 1) := zdal_p dlA_Tokens_isWord_89 (i := 14) rfl
theorem d_Tokens_isWord_27 : decode (zb m_Tokens_isWord) 27 = .ok (.istore_n 2, 1) := zdal_p dlA_Tokens_isWord_89 (i := 15) rfl
theorem d_Tokens_isWord_28 : decode (zb m_Tokens_isWord) 28 = .ok (.iload_n 2, 1) := zdal_p dlA_Tokens_isWord_89 (i := 16) rfl
theorem d_Tokens_isWord_29 : decode (zb m_Tokens_isWord) 29 = .ok (.aload_n 1, 1) := zdal_p dlA_Tokens_isWord_89 (i := 17) rfl
theorem d_Tokens_isWord_30 : decode (zb m_Tokens_isWord) 30 = .ok (.invokevirtual 76, 3) := zdal_p dlA_Tokens_isWord_89 (i := 18) rfl
theorem d_Tokens_isWord_33 : decode (zb m_Tokens_isWord) 33 = .ok (.if_icmp .ge 32, 3) := zdal_p dlA_Tokens_isWord_89 (i := 19) rfl
theorem d_Tokens_isWord_36 : decode (zb m_Tokens_isWord) 36 = .ok (.aload_n 0, 1) := zdal_p dlA_Tokens_isWord_89 (i := 20) rfl
theorem d_Tokens_isWord_37 : decode (zb m_Tokens_isWord) 37 = .ok (.getfield 14, 3) := zdal_p dlA_Tokens_isWord_89 (i := 21) rfl
theorem d_Tokens_isWord_40 : decode (zb m_Tokens_isWord) 40 = .ok (.aload_n 0, 1) := zdal_p dlA_Tokens_isWord_89 (i := 22) rfl
theorem d_Tokens_isWord_41 : decode (zb m_Tokens_isWord) 41 = .ok (.getfield 38, 3) := zdal_p dlA_Tokens_isWord_89 (i := 23) rfl
theorem dlA_Tokens_isWord_90 : zdal (zb m_Tokens_isWord) [(44, (.iload_n 2, 1)), (45, (.iadd, 1)), (46, (.invokevirtual 47, 3)), (49, (.aload_n 1, 1)), (50, (.iload_n 2, 1)), (51, (.invokevirtual 81, 3)), (54, (.if_icmp .eq 5, 3)), (57, (.iconst 0, 1)), (58, (.ireturn, 1)), (59, (.iinc 2 1, 3)), (62, (.goto (-34), 3)), (65, (.iconst 1, 1)), (66, (.ireturn, 1))] = true := zDs 44 (by decide +kernel)
theorem d_Tokens_isWord_44 : decode (zb m_Tokens_isWord) 44 = .ok (.iload_n 2, 1) := zdal_p dlA_Tokens_isWord_90 (i := 0) rfl
theorem d_Tokens_isWord_45 : decode (zb m_Tokens_isWord) 45 = .ok (.iadd, 1) := zdal_p dlA_Tokens_isWord_90 (i := 1) rfl
theorem d_Tokens_isWord_46 : decode (zb m_Tokens_isWord) 46 = .ok (.invokevirtual 47, 3) := zdal_p dlA_Tokens_isWord_90 (i := 2) rfl
theorem d_Tokens_isWord_49 : decode (zb m_Tokens_isWord) 49 = .ok (.aload_n 1, 1) := zdal_p dlA_Tokens_isWord_90 (i := 3) rfl
theorem d_Tokens_isWord_50 : decode (zb m_Tokens_isWord) 50 = .ok (.iload_n 2, 1) := zdal_p dlA_Tokens_isWord_90 (i := 4) rfl
theorem d_Tokens_isWord_51 : decode (zb m_Tokens_isWord) 51 = .ok (.invokevirtual 81, 3) := zdal_p dlA_Tokens_isWord_90 (i := 5) rfl
theorem d_Tokens_isWord_54 : decode (zb m_Tokens_isWord) 54 = .ok (.if_icmp .eq 5, 3) := zdal_p dlA_Tokens_isWord_90 (i := 6) rfl
theorem d_Tokens_isWord_57 : decode (zb m_Tokens_isWord) 57 = .ok (.iconst 0, 1) := zdal_p dlA_Tokens_isWord_90 (i := 7) rfl
theorem d_Tokens_isWord_58 : decode (zb m_Tokens_isWord) 58 = .ok (.ireturn, 1) := zdal_p dlA_Tokens_isWord_90 (i := 8) rfl
theorem d_Tokens_isWord_59 : decode (zb m_Tokens_isWord) 59 = .ok (.iinc 2 1, 3) := zdal_p dlA_Tokens_isWord_90 (i := 9) rfl
theorem d_Tokens_isWord_62 : decode (zb m_Tokens_isWord) 62 = .ok (.goto (-34), 3) := zdal_p dlA_Tokens_isWord_90 (i := 10) rfl
theorem d_Tokens_isWord_65 : decode (zb m_Tokens_isWord) 65 = .ok (.iconst 1, 1) := zdal_p dlA_Tokens_isWord_90 (i := 11) rfl
theorem d_Tokens_isWord_66 : decode (zb m_Tokens_isWord) 66 = .ok (.ireturn, 1) := zdal_p dlA_Tokens_isWord_90 (i := 12) rfl
theorem dlA_Reader_refuse_91 : zdal (zb m_Reader_refuse) [(0, (.aload_n 0, 1)), (1, (.aload_n 0, 1)), (2, (.getfield 15, 3)), (5, (.getfield 27, 3)), (8, (.iconst 4, 1)), (9, (.if_icmp .ne 7, 3)), (12, (.iconst 1, 1)), (13, (.goto 4, 3)), (16, (.iload_n 1, 1)), (17, (.aload_n 0, 1)), (18, (.getfield 15, 3)), (21, (.getfield 30, 3)), (24, (.invokevirtual 33, 3)), (27, (.ireturn, 1))] = true := zDs 0 (by decide +kernel)
theorem d_Reader_refuse_0 : decode (zb m_Reader_refuse) 0 = .ok (.aload_n 0, 1) := zdal_p dlA_Reader_refuse_91 (i := 0) rfl
theorem d_Reader_refuse_1 : decode (zb m_Reader_refuse) 1 = .ok (.aload_n 0, 1) := zdal_p dlA_Reader_refuse_91 (i := 1) rfl
theorem d_Reader_refuse_2 : decode (zb m_Reader_refuse) 2 = .ok (.getfield 15, 3) := zdal_p dlA_Reader_refuse_91 (i := 2) rfl
theorem d_Reader_refuse_5 : decode (zb m_Reader_refuse) 5 = .ok (.getfield 27, 3) := zdal_p dlA_Reader_refuse_91 (i := 3) rfl
theorem d_Reader_refuse_8 : decode (zb m_Reader_refuse) 8 = .ok (.iconst 4, 1) := zdal_p dlA_Reader_refuse_91 (i := 4) rfl
theorem d_Reader_refuse_9 : decode (zb m_Reader_refuse) 9 = .ok (.if_icmp .ne 7, 3) := zdal_p dlA_Reader_refuse_91 (i := 5) rfl
theorem d_Reader_refuse_12 : decode (zb m_Reader_refuse) 12 = .ok (.iconst 1, 1) := zdal_p dlA_Reader_refuse_91 (i := 6) rfl
theorem d_Reader_refuse_13 : decode (zb m_Reader_refuse) 13 = .ok (.goto 4, 3) := zdal_p dlA_Reader_refuse_91 (i := 7) rfl
theorem d_Reader_refuse_16 : decode (zb m_Reader_refuse) 16 = .ok (.iload_n 1, 1) := zdal_p dlA_Reader_refuse_91 (i := 8) rfl
theorem d_Reader_refuse_17 : decode (zb m_Reader_refuse) 17 = .ok (.aload_n 0, 1) := zdal_p dlA_Reader_refuse_91 (i := 9) rfl
theorem d_Reader_refuse_18 : decode (zb m_Reader_refuse) 18 = .ok (.getfield 15, 3) := zdal_p dlA_Reader_refuse_91 (i := 10) rfl
theorem d_Reader_refuse_21 : decode (zb m_Reader_refuse) 21 = .ok (.getfield 30, 3) := zdal_p dlA_Reader_refuse_91 (i := 11) rfl
theorem d_Reader_refuse_24 : decode (zb m_Reader_refuse) 24 = .ok (.invokevirtual 33, 3) := zdal_p dlA_Reader_refuse_91 (i := 12) rfl
theorem d_Reader_refuse_27 : decode (zb m_Reader_refuse) 27 = .ok (.ireturn, 1) := zdal_p dlA_Reader_refuse_91 (i := 13) rfl
theorem dlA_Reader_refuseAt_92 : zdal (zb m_Reader_refuseAt) [(0, (.aload_n 0, 1)), (1, (.iload_n 1, 1)), (2, (.putfield 19, 3)), (5, (.aload_n 0, 1)), (6, (.iload_n 2, 1)), (7, (.putfield 9, 3)), (10, (.iconst 0, 1)), (11, (.ireturn, 1))] = true := zDs 0 (by decide +kernel)
theorem d_Reader_refuseAt_0 : decode (zb m_Reader_refuseAt) 0 = .ok (.aload_n 0, 1) := zdal_p dlA_Reader_refuseAt_92 (i := 0) rfl
theorem d_Reader_refuseAt_1 : decode (zb m_Reader_refuseAt) 1 = .ok (.iload_n 1, 1) := zdal_p dlA_Reader_refuseAt_92 (i := 1) rfl
theorem d_Reader_refuseAt_2 : decode (zb m_Reader_refuseAt) 2 = .ok (.putfield 19, 3) := zdal_p dlA_Reader_refuseAt_92 (i := 2) rfl
theorem d_Reader_refuseAt_5 : decode (zb m_Reader_refuseAt) 5 = .ok (.aload_n 0, 1) := zdal_p dlA_Reader_refuseAt_92 (i := 3) rfl
theorem d_Reader_refuseAt_6 : decode (zb m_Reader_refuseAt) 6 = .ok (.iload_n 2, 1) := zdal_p dlA_Reader_refuseAt_92 (i := 4) rfl
theorem d_Reader_refuseAt_7 : decode (zb m_Reader_refuseAt) 7 = .ok (.putfield 9, 3) := zdal_p dlA_Reader_refuseAt_92 (i := 5) rfl
theorem d_Reader_refuseAt_10 : decode (zb m_Reader_refuseAt) 10 = .ok (.iconst 0, 1) := zdal_p dlA_Reader_refuseAt_92 (i := 6) rfl
theorem d_Reader_refuseAt_11 : decode (zb m_Reader_refuseAt) 11 = .ok (.ireturn, 1) := zdal_p dlA_Reader_refuseAt_92 (i := 7) rfl
theorem dlA_Tokens_isNumber_93 : zdal (zb m_Tokens_isNumber) [(0, (.aload_n 0, 1)), (1, (.getfield 44, 3)), (4, (.iconst 2, 1)), (5, (.if_icmp .ne 7, 3)), (8, (.iconst 1, 1)), (9, (.goto 4, 3)), (12, (.iconst 0, 1)), (13, (.ireturn, 1))] = true := zDs 0 (by decide +kernel)
theorem d_Tokens_isNumber_0 : decode (zb m_Tokens_isNumber) 0 = .ok (.aload_n 0, 1) := zdal_p dlA_Tokens_isNumber_93 (i := 0) rfl
theorem d_Tokens_isNumber_1 : decode (zb m_Tokens_isNumber) 1 = .ok (.getfield 44, 3) := zdal_p dlA_Tokens_isNumber_93 (i := 1) rfl
theorem d_Tokens_isNumber_4 : decode (zb m_Tokens_isNumber) 4 = .ok (.iconst 2, 1) := zdal_p dlA_Tokens_isNumber_93 (i := 2) rfl
theorem d_Tokens_isNumber_5 : decode (zb m_Tokens_isNumber) 5 = .ok (.if_icmp .ne 7, 3) := zdal_p dlA_Tokens_isNumber_93 (i := 3) rfl
theorem d_Tokens_isNumber_8 : decode (zb m_Tokens_isNumber) 8 = .ok (.iconst 1, 1) := zdal_p dlA_Tokens_isNumber_93 (i := 4) rfl
theorem d_Tokens_isNumber_9 : decode (zb m_Tokens_isNumber) 9 = .ok (.goto 4, 3) := zdal_p dlA_Tokens_isNumber_93 (i := 5) rfl
theorem d_Tokens_isNumber_12 : decode (zb m_Tokens_isNumber) 12 = .ok (.iconst 0, 1) := zdal_p dlA_Tokens_isNumber_93 (i := 6) rfl
theorem d_Tokens_isNumber_13 : decode (zb m_Tokens_isNumber) 13 = .ok (.ireturn, 1) := zdal_p dlA_Tokens_isNumber_93 (i := 7) rfl
theorem dlA_Reader_passSign_94 : zdal (zb m_Reader_passSign) [(0, (.aload_n 0, 1)), (1, (.getfield 15, 3)), (4, (.iload_n 1, 1)), (5, (.invokevirtual 37, 3)), (8, (.ifCond .ne 9, 3)), (11, (.aload_n 0, 1)), (12, (.iconst 2, 1)), (13, (.invokevirtual 41, 3)), (16, (.ireturn, 1)), (17, (.aload_n 0, 1)), (18, (.getfield 15, 3)), (21, (.invokevirtual 44, 3)), (24, (.iconst 1, 1)), (25, (.ireturn, 1))] = true := zDs 0 (by decide +kernel)
theorem d_Reader_passSign_0 : decode (zb m_Reader_passSign) 0 = .ok (.aload_n 0, 1) := zdal_p dlA_Reader_passSign_94 (i := 0) rfl
theorem d_Reader_passSign_1 : decode (zb m_Reader_passSign) 1 = .ok (.getfield 15, 3) := zdal_p dlA_Reader_passSign_94 (i := 1) rfl
theorem d_Reader_passSign_4 : decode (zb m_Reader_passSign) 4 = .ok (.iload_n 1, 1) := zdal_p dlA_Reader_passSign_94 (i := 2) rfl
theorem d_Reader_passSign_5 : decode (zb m_Reader_passSign) 5 = .ok (.invokevirtual 37, 3) := zdal_p dlA_Reader_passSign_94 (i := 3) rfl
theorem d_Reader_passSign_8 : decode (zb m_Reader_passSign) 8 = .ok (.ifCond .ne 9, 3) := zdal_p dlA_Reader_passSign_94 (i := 4) rfl
theorem d_Reader_passSign_11 : decode (zb m_Reader_passSign) 11 = .ok (.aload_n 0, 1) := zdal_p dlA_Reader_passSign_94 (i := 5) rfl
theorem d_Reader_passSign_12 : decode (zb m_Reader_passSign) 12 = .ok (.iconst 2, 1) := zdal_p dlA_Reader_passSign_94 (i := 6) rfl
theorem d_Reader_passSign_13 : decode (zb m_Reader_passSign) 13 = .ok (.invokevirtual 41, 3) := zdal_p dlA_Reader_passSign_94 (i := 7) rfl
theorem d_Reader_passSign_16 : decode (zb m_Reader_passSign) 16 = .ok (.ireturn, 1) := zdal_p dlA_Reader_passSign_94 (i := 8) rfl
theorem d_Reader_passSign_17 : decode (zb m_Reader_passSign) 17 = .ok (.aload_n 0, 1) := zdal_p dlA_Reader_passSign_94 (i := 9) rfl
theorem d_Reader_passSign_18 : decode (zb m_Reader_passSign) 18 = .ok (.getfield 15, 3) := zdal_p dlA_Reader_passSign_94 (i := 10) rfl
theorem d_Reader_passSign_21 : decode (zb m_Reader_passSign) 21 = .ok (.invokevirtual 44, 3) := zdal_p dlA_Reader_passSign_94 (i := 11) rfl
theorem d_Reader_passSign_24 : decode (zb m_Reader_passSign) 24 = .ok (.iconst 1, 1) := zdal_p dlA_Reader_passSign_94 (i := 12) rfl
theorem d_Reader_passSign_25 : decode (zb m_Reader_passSign) 25 = .ok (.ireturn, 1) := zdal_p dlA_Reader_passSign_94 (i := 13) rfl
theorem dlA_Tokens_isSign_95 : zdal (zb m_Tokens_isSign) [(0, (.aload_n 0, 1)), (1, (.getfield 44, 3)), (4, (.iconst 3, 1)), (5, (.if_icmp .ne 15, 3)), (8, (.aload_n 0, 1)), (9, (.getfield 41, 3)), (12, (.iload_n 1, 1)), (13, (.if_icmp .ne 7, 3)), (16, (.iconst 1, 1)), (17, (.goto 4, 3)), (20, (.iconst 0, 1)), (21, (.ireturn, 1))] = true := zDs 0 (by decide +kernel)
theorem d_Tokens_isSign_0 : decode (zb m_Tokens_isSign) 0 = .ok (.aload_n 0, 1) := zdal_p dlA_Tokens_isSign_95 (i := 0) rfl
theorem d_Tokens_isSign_1 : decode (zb m_Tokens_isSign) 1 = .ok (.getfield 44, 3) := zdal_p dlA_Tokens_isSign_95 (i := 1) rfl
theorem d_Tokens_isSign_4 : decode (zb m_Tokens_isSign) 4 = .ok (.iconst 3, 1) := zdal_p dlA_Tokens_isSign_95 (i := 2) rfl
theorem d_Tokens_isSign_5 : decode (zb m_Tokens_isSign) 5 = .ok (.if_icmp .ne 15, 3) := zdal_p dlA_Tokens_isSign_95 (i := 3) rfl
theorem d_Tokens_isSign_8 : decode (zb m_Tokens_isSign) 8 = .ok (.aload_n 0, 1) := zdal_p dlA_Tokens_isSign_95 (i := 4) rfl
theorem d_Tokens_isSign_9 : decode (zb m_Tokens_isSign) 9 = .ok (.getfield 41, 3) := zdal_p dlA_Tokens_isSign_95 (i := 5) rfl
theorem d_Tokens_isSign_12 : decode (zb m_Tokens_isSign) 12 = .ok (.iload_n 1, 1) := zdal_p dlA_Tokens_isSign_95 (i := 6) rfl
theorem d_Tokens_isSign_13 : decode (zb m_Tokens_isSign) 13 = .ok (.if_icmp .ne 7, 3) := zdal_p dlA_Tokens_isSign_95 (i := 7) rfl
theorem d_Tokens_isSign_16 : decode (zb m_Tokens_isSign) 16 = .ok (.iconst 1, 1) := zdal_p dlA_Tokens_isSign_95 (i := 8) rfl
theorem d_Tokens_isSign_17 : decode (zb m_Tokens_isSign) 17 = .ok (.goto 4, 3) := zdal_p dlA_Tokens_isSign_95 (i := 9) rfl
theorem d_Tokens_isSign_20 : decode (zb m_Tokens_isSign) 20 = .ok (.iconst 0, 1) := zdal_p dlA_Tokens_isSign_95 (i := 10) rfl
theorem d_Tokens_isSign_21 : decode (zb m_Tokens_isSign) 21 = .ok (.ireturn, 1) := zdal_p dlA_Tokens_isSign_95 (i := 11) rfl
theorem dlA_Reader_readMoves_96 : zdal (zb m_Reader_readMoves) [(0, (.iconst 0, 1)), (1, (.istore_n 2, 1)), (2, (.iload_n 2, 1)), (3, (.iconst 4, 1)), (4, (.if_icmp .gt 102, 3)), (7, (.aload_n 0, 1)), (8, (.getfield 15, 3)), (11, (.ldc 69, 2)), (13, (.invokevirtual 49, 3)), (16, (.ifCond .eq 90, 3)), (19, (.aload_n 0, 1)), (20, (.getfield 15, 3)), (23, (.getfield 30, 3)), (26, (.istore_n 3, 1)), (27, (.aload_n 1, 1)), (28, (.getfield 71, 3)), (31, (.getfield 75, 3)), (34, (.iconst 4, 1)), (35, (.if_icmp .lt 9, 3)), (38, (.aload_n 0, 1)), (39, (.iconst 5, 1)), (40, (.invokevirtual 41, 3)), (43, (.ireturn, 1)), (44, (.aload_n 0, 1))] = true := zDs 0 (by decide +kernel)
theorem d_Reader_readMoves_0 : decode (zb m_Reader_readMoves) 0 = .ok (.iconst 0, 1) := zdal_p dlA_Reader_readMoves_96 (i := 0) rfl
theorem d_Reader_readMoves_1 : decode (zb m_Reader_readMoves) 1 = .ok (.istore_n 2, 1) := zdal_p dlA_Reader_readMoves_96 (i := 1) rfl
theorem d_Reader_readMoves_2 : decode (zb m_Reader_readMoves) 2 = .ok (.iload_n 2, 1) := zdal_p dlA_Reader_readMoves_96 (i := 2) rfl
theorem d_Reader_readMoves_3 : decode (zb m_Reader_readMoves) 3 = .ok (.iconst 4, 1) := zdal_p dlA_Reader_readMoves_96 (i := 3) rfl
theorem d_Reader_readMoves_4 : decode (zb m_Reader_readMoves) 4 = .ok (.if_icmp .gt 102, 3) := zdal_p dlA_Reader_readMoves_96 (i := 4) rfl
theorem d_Reader_readMoves_7 : decode (zb m_Reader_readMoves) 7 = .ok (.aload_n 0, 1) := zdal_p dlA_Reader_readMoves_96 (i := 5) rfl
theorem d_Reader_readMoves_8 : decode (zb m_Reader_readMoves) 8 = .ok (.getfield 15, 3) := zdal_p dlA_Reader_readMoves_96 (i := 6) rfl
theorem d_Reader_readMoves_11 : decode (zb m_Reader_readMoves) 11 = .ok (.ldc 69, 2) := zdal_p dlA_Reader_readMoves_96 (i := 7) rfl
theorem d_Reader_readMoves_13 : decode (zb m_Reader_readMoves) 13 = .ok (.invokevirtual 49, 3) := zdal_p dlA_Reader_readMoves_96 (i := 8) rfl
theorem d_Reader_readMoves_16 : decode (zb m_Reader_readMoves) 16 = .ok (.ifCond .eq 90, 3) := zdal_p dlA_Reader_readMoves_96 (i := 9) rfl
theorem d_Reader_readMoves_19 : decode (zb m_Reader_readMoves) 19 = .ok (.aload_n 0, 1) := zdal_p dlA_Reader_readMoves_96 (i := 10) rfl
theorem d_Reader_readMoves_20 : decode (zb m_Reader_readMoves) 20 = .ok (.getfield 15, 3) := zdal_p dlA_Reader_readMoves_96 (i := 11) rfl
theorem d_Reader_readMoves_23 : decode (zb m_Reader_readMoves) 23 = .ok (.getfield 30, 3) := zdal_p dlA_Reader_readMoves_96 (i := 12) rfl
theorem d_Reader_readMoves_26 : decode (zb m_Reader_readMoves) 26 = .ok (.istore_n 3, 1) := zdal_p dlA_Reader_readMoves_96 (i := 13) rfl
theorem d_Reader_readMoves_27 : decode (zb m_Reader_readMoves) 27 = .ok (.aload_n 1, 1) := zdal_p dlA_Reader_readMoves_96 (i := 14) rfl
theorem d_Reader_readMoves_28 : decode (zb m_Reader_readMoves) 28 = .ok (.getfield 71, 3) := zdal_p dlA_Reader_readMoves_96 (i := 15) rfl
theorem d_Reader_readMoves_31 : decode (zb m_Reader_readMoves) 31 = .ok (.getfield 75, 3) := zdal_p dlA_Reader_readMoves_96 (i := 16) rfl
theorem d_Reader_readMoves_34 : decode (zb m_Reader_readMoves) 34 = .ok (.iconst 4, 1) := zdal_p dlA_Reader_readMoves_96 (i := 17) rfl
theorem d_Reader_readMoves_35 : decode (zb m_Reader_readMoves) 35 = .ok (.if_icmp .lt 9, 3) := zdal_p dlA_Reader_readMoves_96 (i := 18) rfl
theorem d_Reader_readMoves_38 : decode (zb m_Reader_readMoves) 38 = .ok (.aload_n 0, 1) := zdal_p dlA_Reader_readMoves_96 (i := 19) rfl
theorem d_Reader_readMoves_39 : decode (zb m_Reader_readMoves) 39 = .ok (.iconst 5, 1) := zdal_p dlA_Reader_readMoves_96 (i := 20) rfl
theorem d_Reader_readMoves_40 : decode (zb m_Reader_readMoves) 40 = .ok (.invokevirtual 41, 3) := zdal_p dlA_Reader_readMoves_96 (i := 21) rfl
theorem d_Reader_readMoves_43 : decode (zb m_Reader_readMoves) 43 = .ok (.ireturn, 1) := zdal_p dlA_Reader_readMoves_96 (i := 22) rfl
theorem d_Reader_readMoves_44 : decode (zb m_Reader_readMoves) 44 = .ok (.aload_n 0, 1) := zdal_p dlA_Reader_readMoves_96 (i := 23) rfl
theorem dlA_Reader_readMoves_97 : zdal (zb m_Reader_readMoves) [(45, (.getfield 15, 3)), (48, (.invokevirtual 44, 3)), (51, (.aload_n 0, 1)), (52, (.aload_n 1, 1)), (53, (.getfield 71, 3)), (56, (.getfield 80, 3)), (59, (.invokevirtual 82, 3)), (62, (.istore 4, 2)), (64, (.iload 4, 2)), (66, (.iconst (-1), 1)), (67, (.if_icmp .eq 12, 3)), (70, (.aload_n 0, 1)), (71, (.bipush 59, 2)), (73, (.invokevirtual 66, 3)), (76, (.ifCond .ne 5, 3)), (79, (.iconst 0, 1)), (80, (.ireturn, 1)), (81, (.aload_n 1, 1)), (82, (.getfield 71, 3)), (85, (.iload 4, 2)), (87, (.invokevirtual 86, 3)), (90, (.ifCond .ne 10, 3)), (93, (.aload_n 0, 1)), (94, (.iconst 5, 1))] = true := zDs 45 (by decide +kernel)
theorem d_Reader_readMoves_45 : decode (zb m_Reader_readMoves) 45 = .ok (.getfield 15, 3) := zdal_p dlA_Reader_readMoves_97 (i := 0) rfl
theorem d_Reader_readMoves_48 : decode (zb m_Reader_readMoves) 48 = .ok (.invokevirtual 44, 3) := zdal_p dlA_Reader_readMoves_97 (i := 1) rfl
theorem d_Reader_readMoves_51 : decode (zb m_Reader_readMoves) 51 = .ok (.aload_n 0, 1) := zdal_p dlA_Reader_readMoves_97 (i := 2) rfl
theorem d_Reader_readMoves_52 : decode (zb m_Reader_readMoves) 52 = .ok (.aload_n 1, 1) := zdal_p dlA_Reader_readMoves_97 (i := 3) rfl
theorem d_Reader_readMoves_53 : decode (zb m_Reader_readMoves) 53 = .ok (.getfield 71, 3) := zdal_p dlA_Reader_readMoves_97 (i := 4) rfl
theorem d_Reader_readMoves_56 : decode (zb m_Reader_readMoves) 56 = .ok (.getfield 80, 3) := zdal_p dlA_Reader_readMoves_97 (i := 5) rfl
theorem d_Reader_readMoves_59 : decode (zb m_Reader_readMoves) 59 = .ok (.invokevirtual 82, 3) := zdal_p dlA_Reader_readMoves_97 (i := 6) rfl
theorem d_Reader_readMoves_62 : decode (zb m_Reader_readMoves) 62 = .ok (.istore 4, 2) := zdal_p dlA_Reader_readMoves_97 (i := 7) rfl
theorem d_Reader_readMoves_64 : decode (zb m_Reader_readMoves) 64 = .ok (.iload 4, 2) := zdal_p dlA_Reader_readMoves_97 (i := 8) rfl
theorem d_Reader_readMoves_66 : decode (zb m_Reader_readMoves) 66 = .ok (.iconst (-1), 1) := zdal_p dlA_Reader_readMoves_97 (i := 9) rfl
theorem d_Reader_readMoves_67 : decode (zb m_Reader_readMoves) 67 = .ok (.if_icmp .eq 12, 3) := zdal_p dlA_Reader_readMoves_97 (i := 10) rfl
theorem d_Reader_readMoves_70 : decode (zb m_Reader_readMoves) 70 = .ok (.aload_n 0, 1) := zdal_p dlA_Reader_readMoves_97 (i := 11) rfl
theorem d_Reader_readMoves_71 : decode (zb m_Reader_readMoves) 71 = .ok (.bipush 59, 2) := zdal_p dlA_Reader_readMoves_97 (i := 12) rfl
theorem d_Reader_readMoves_73 : decode (zb m_Reader_readMoves) 73 = .ok (.invokevirtual 66, 3) := zdal_p dlA_Reader_readMoves_97 (i := 13) rfl
theorem d_Reader_readMoves_76 : decode (zb m_Reader_readMoves) 76 = .ok (.ifCond .ne 5, 3) := zdal_p dlA_Reader_readMoves_97 (i := 14) rfl
theorem d_Reader_readMoves_79 : decode (zb m_Reader_readMoves) 79 = .ok (.iconst 0, 1) := zdal_p dlA_Reader_readMoves_97 (i := 15) rfl
theorem d_Reader_readMoves_80 : decode (zb m_Reader_readMoves) 80 = .ok (.ireturn, 1) := zdal_p dlA_Reader_readMoves_97 (i := 16) rfl
theorem d_Reader_readMoves_81 : decode (zb m_Reader_readMoves) 81 = .ok (.aload_n 1, 1) := zdal_p dlA_Reader_readMoves_97 (i := 17) rfl
theorem d_Reader_readMoves_82 : decode (zb m_Reader_readMoves) 82 = .ok (.getfield 71, 3) := zdal_p dlA_Reader_readMoves_97 (i := 18) rfl
theorem d_Reader_readMoves_85 : decode (zb m_Reader_readMoves) 85 = .ok (.iload 4, 2) := zdal_p dlA_Reader_readMoves_97 (i := 19) rfl
theorem d_Reader_readMoves_87 : decode (zb m_Reader_readMoves) 87 = .ok (.invokevirtual 86, 3) := zdal_p dlA_Reader_readMoves_97 (i := 20) rfl
theorem d_Reader_readMoves_90 : decode (zb m_Reader_readMoves) 90 = .ok (.ifCond .ne 10, 3) := zdal_p dlA_Reader_readMoves_97 (i := 21) rfl
theorem d_Reader_readMoves_93 : decode (zb m_Reader_readMoves) 93 = .ok (.aload_n 0, 1) := zdal_p dlA_Reader_readMoves_97 (i := 22) rfl
theorem d_Reader_readMoves_94 : decode (zb m_Reader_readMoves) 94 = .ok (.iconst 5, 1) := zdal_p dlA_Reader_readMoves_97 (i := 23) rfl
theorem dlA_Reader_readMoves_98 : zdal (zb m_Reader_readMoves) [(95, (.iload_n 3, 1)), (96, (.invokevirtual 33, 3)), (99, (.ireturn, 1)), (100, (.iinc 2 1, 3)), (103, (.goto (-101), 3)), (106, (.iconst 1, 1)), (107, (.ireturn, 1))] = true := zDs 95 (by decide +kernel)
theorem d_Reader_readMoves_95 : decode (zb m_Reader_readMoves) 95 = .ok (.iload_n 3, 1) := zdal_p dlA_Reader_readMoves_98 (i := 0) rfl
theorem d_Reader_readMoves_96 : decode (zb m_Reader_readMoves) 96 = .ok (.invokevirtual 33, 3) := zdal_p dlA_Reader_readMoves_98 (i := 1) rfl
theorem d_Reader_readMoves_99 : decode (zb m_Reader_readMoves) 99 = .ok (.ireturn, 1) := zdal_p dlA_Reader_readMoves_98 (i := 2) rfl
theorem d_Reader_readMoves_100 : decode (zb m_Reader_readMoves) 100 = .ok (.iinc 2 1, 3) := zdal_p dlA_Reader_readMoves_98 (i := 3) rfl
theorem d_Reader_readMoves_103 : decode (zb m_Reader_readMoves) 103 = .ok (.goto (-101), 3) := zdal_p dlA_Reader_readMoves_98 (i := 4) rfl
theorem d_Reader_readMoves_106 : decode (zb m_Reader_readMoves) 106 = .ok (.iconst 1, 1) := zdal_p dlA_Reader_readMoves_98 (i := 5) rfl
theorem d_Reader_readMoves_107 : decode (zb m_Reader_readMoves) 107 = .ok (.ireturn, 1) := zdal_p dlA_Reader_readMoves_98 (i := 6) rfl
theorem dlA_Reader_readMove_99 : zdal (zb m_Reader_readMove) [(0, (.iconst 0, 1)), (1, (.istore_n 2, 1)), (2, (.iconst 0, 1)), (3, (.istore_n 3, 1)), (4, (.iconst 0, 1)), (5, (.istore 4, 2)), (7, (.iload 4, 2)), (9, (.iload_n 1, 1)), (10, (.if_icmp .ge 83, 3)), (13, (.aload_n 0, 1)), (14, (.getfield 15, 3)), (17, (.invokevirtual 53, 3)), (20, (.ifCond .ne 11, 3)), (23, (.aload_n 0, 1)), (24, (.iconst 2, 1)), (25, (.invokevirtual 41, 3)), (28, (.pop, 1)), (29, (.iconst (-1), 1)), (30, (.ireturn, 1)), (31, (.aload_n 0, 1)), (32, (.getfield 15, 3)), (35, (.getfield 57, 3)), (38, (.istore 5, 2)), (40, (.iload 5, 2))] = true := zDs 0 (by decide +kernel)
theorem d_Reader_readMove_0 : decode (zb m_Reader_readMove) 0 = .ok (.iconst 0, 1) := zdal_p dlA_Reader_readMove_99 (i := 0) rfl
theorem d_Reader_readMove_1 : decode (zb m_Reader_readMove) 1 = .ok (.istore_n 2, 1) := zdal_p dlA_Reader_readMove_99 (i := 1) rfl
theorem d_Reader_readMove_2 : decode (zb m_Reader_readMove) 2 = .ok (.iconst 0, 1) := zdal_p dlA_Reader_readMove_99 (i := 2) rfl
theorem d_Reader_readMove_3 : decode (zb m_Reader_readMove) 3 = .ok (.istore_n 3, 1) := zdal_p dlA_Reader_readMove_99 (i := 3) rfl
theorem d_Reader_readMove_4 : decode (zb m_Reader_readMove) 4 = .ok (.iconst 0, 1) := zdal_p dlA_Reader_readMove_99 (i := 4) rfl
theorem d_Reader_readMove_5 : decode (zb m_Reader_readMove) 5 = .ok (.istore 4, 2) := zdal_p dlA_Reader_readMove_99 (i := 5) rfl
theorem d_Reader_readMove_7 : decode (zb m_Reader_readMove) 7 = .ok (.iload 4, 2) := zdal_p dlA_Reader_readMove_99 (i := 6) rfl
theorem d_Reader_readMove_9 : decode (zb m_Reader_readMove) 9 = .ok (.iload_n 1, 1) := zdal_p dlA_Reader_readMove_99 (i := 7) rfl
theorem d_Reader_readMove_10 : decode (zb m_Reader_readMove) 10 = .ok (.if_icmp .ge 83, 3) := zdal_p dlA_Reader_readMove_99 (i := 8) rfl
theorem d_Reader_readMove_13 : decode (zb m_Reader_readMove) 13 = .ok (.aload_n 0, 1) := zdal_p dlA_Reader_readMove_99 (i := 9) rfl
theorem d_Reader_readMove_14 : decode (zb m_Reader_readMove) 14 = .ok (.getfield 15, 3) := zdal_p dlA_Reader_readMove_99 (i := 10) rfl
theorem d_Reader_readMove_17 : decode (zb m_Reader_readMove) 17 = .ok (.invokevirtual 53, 3) := zdal_p dlA_Reader_readMove_99 (i := 11) rfl
theorem d_Reader_readMove_20 : decode (zb m_Reader_readMove) 20 = .ok (.ifCond .ne 11, 3) := zdal_p dlA_Reader_readMove_99 (i := 12) rfl
theorem d_Reader_readMove_23 : decode (zb m_Reader_readMove) 23 = .ok (.aload_n 0, 1) := zdal_p dlA_Reader_readMove_99 (i := 13) rfl
theorem d_Reader_readMove_24 : decode (zb m_Reader_readMove) 24 = .ok (.iconst 2, 1) := zdal_p dlA_Reader_readMove_99 (i := 14) rfl
theorem d_Reader_readMove_25 : decode (zb m_Reader_readMove) 25 = .ok (.invokevirtual 41, 3) := zdal_p dlA_Reader_readMove_99 (i := 15) rfl
theorem d_Reader_readMove_28 : decode (zb m_Reader_readMove) 28 = .ok (.pop, 1) := zdal_p dlA_Reader_readMove_99 (i := 16) rfl
theorem d_Reader_readMove_29 : decode (zb m_Reader_readMove) 29 = .ok (.iconst (-1), 1) := zdal_p dlA_Reader_readMove_99 (i := 17) rfl
theorem d_Reader_readMove_30 : decode (zb m_Reader_readMove) 30 = .ok (.ireturn, 1) := zdal_p dlA_Reader_readMove_99 (i := 18) rfl
theorem d_Reader_readMove_31 : decode (zb m_Reader_readMove) 31 = .ok (.aload_n 0, 1) := zdal_p dlA_Reader_readMove_99 (i := 19) rfl
theorem d_Reader_readMove_32 : decode (zb m_Reader_readMove) 32 = .ok (.getfield 15, 3) := zdal_p dlA_Reader_readMove_99 (i := 20) rfl
theorem d_Reader_readMove_35 : decode (zb m_Reader_readMove) 35 = .ok (.getfield 57, 3) := zdal_p dlA_Reader_readMove_99 (i := 21) rfl
theorem d_Reader_readMove_38 : decode (zb m_Reader_readMove) 38 = .ok (.istore 5, 2) := zdal_p dlA_Reader_readMove_99 (i := 22) rfl
theorem d_Reader_readMove_40 : decode (zb m_Reader_readMove) 40 = .ok (.iload 5, 2) := zdal_p dlA_Reader_readMove_99 (i := 23) rfl
theorem dlA_Reader_readMove_100 : zdal (zb m_Reader_readMove) [(42, (.iload_n 1, 1)), (43, (.if_icmp .ge 12, 3)), (46, (.iload_n 3, 1)), (47, (.iload 5, 2)), (49, (.invokestatic 89, 3)), (52, (.ifCond .eq 11, 3)), (55, (.aload_n 0, 1)), (56, (.iconst 4, 1)), (57, (.invokevirtual 41, 3)), (60, (.pop, 1)), (61, (.iconst (-1), 1)), (62, (.ireturn, 1)), (63, (.iload_n 3, 1)), (64, (.iconst 1, 1)), (65, (.iload 5, 2)), (67, (.ishl, 1)), (68, (.ior, 1)), (69, (.istore_n 3, 1)), (70, (.iload_n 2, 1)), (71, (.iload 5, 2)), (73, (.iload 4, 2)), (75, (.invokestatic 92, 3)), (78, (.ior, 1)), (79, (.istore_n 2, 1))] = true := zDs 42 (by decide +kernel)
theorem d_Reader_readMove_42 : decode (zb m_Reader_readMove) 42 = .ok (.iload_n 1, 1) := zdal_p dlA_Reader_readMove_100 (i := 0) rfl
theorem d_Reader_readMove_43 : decode (zb m_Reader_readMove) 43 = .ok (.if_icmp .ge 12, 3) := zdal_p dlA_Reader_readMove_100 (i := 1) rfl
theorem d_Reader_readMove_46 : decode (zb m_Reader_readMove) 46 = .ok (.iload_n 3, 1) := zdal_p dlA_Reader_readMove_100 (i := 2) rfl
theorem d_Reader_readMove_47 : decode (zb m_Reader_readMove) 47 = .ok (.iload 5, 2) := zdal_p dlA_Reader_readMove_100 (i := 3) rfl
theorem d_Reader_readMove_49 : decode (zb m_Reader_readMove) 49 = .ok (.invokestatic 89, 3) := zdal_p dlA_Reader_readMove_100 (i := 4) rfl
theorem d_Reader_readMove_52 : decode (zb m_Reader_readMove) 52 = .ok (.ifCond .eq 11, 3) := zdal_p dlA_Reader_readMove_100 (i := 5) rfl
theorem d_Reader_readMove_55 : decode (zb m_Reader_readMove) 55 = .ok (.aload_n 0, 1) := zdal_p dlA_Reader_readMove_100 (i := 6) rfl
theorem d_Reader_readMove_56 : decode (zb m_Reader_readMove) 56 = .ok (.iconst 4, 1) := zdal_p dlA_Reader_readMove_100 (i := 7) rfl
theorem d_Reader_readMove_57 : decode (zb m_Reader_readMove) 57 = .ok (.invokevirtual 41, 3) := zdal_p dlA_Reader_readMove_100 (i := 8) rfl
theorem d_Reader_readMove_60 : decode (zb m_Reader_readMove) 60 = .ok (.pop, 1) := zdal_p dlA_Reader_readMove_100 (i := 9) rfl
theorem d_Reader_readMove_61 : decode (zb m_Reader_readMove) 61 = .ok (.iconst (-1), 1) := zdal_p dlA_Reader_readMove_100 (i := 10) rfl
theorem d_Reader_readMove_62 : decode (zb m_Reader_readMove) 62 = .ok (.ireturn, 1) := zdal_p dlA_Reader_readMove_100 (i := 11) rfl
theorem d_Reader_readMove_63 : decode (zb m_Reader_readMove) 63 = .ok (.iload_n 3, 1) := zdal_p dlA_Reader_readMove_100 (i := 12) rfl
theorem d_Reader_readMove_64 : decode (zb m_Reader_readMove) 64 = .ok (.iconst 1, 1) := zdal_p dlA_Reader_readMove_100 (i := 13) rfl
theorem d_Reader_readMove_65 : decode (zb m_Reader_readMove) 65 = .ok (.iload 5, 2) := zdal_p dlA_Reader_readMove_100 (i := 14) rfl
theorem d_Reader_readMove_67 : decode (zb m_Reader_readMove) 67 = .ok (.ishl, 1) := zdal_p dlA_Reader_readMove_100 (i := 15) rfl
theorem d_Reader_readMove_68 : decode (zb m_Reader_readMove) 68 = .ok (.ior, 1) := zdal_p dlA_Reader_readMove_100 (i := 16) rfl
theorem d_Reader_readMove_69 : decode (zb m_Reader_readMove) 69 = .ok (.istore_n 3, 1) := zdal_p dlA_Reader_readMove_100 (i := 17) rfl
theorem d_Reader_readMove_70 : decode (zb m_Reader_readMove) 70 = .ok (.iload_n 2, 1) := zdal_p dlA_Reader_readMove_100 (i := 18) rfl
theorem d_Reader_readMove_71 : decode (zb m_Reader_readMove) 71 = .ok (.iload 5, 2) := zdal_p dlA_Reader_readMove_100 (i := 19) rfl
theorem d_Reader_readMove_73 : decode (zb m_Reader_readMove) 73 = .ok (.iload 4, 2) := zdal_p dlA_Reader_readMove_100 (i := 20) rfl
theorem d_Reader_readMove_75 : decode (zb m_Reader_readMove) 75 = .ok (.invokestatic 92, 3) := zdal_p dlA_Reader_readMove_100 (i := 21) rfl
theorem d_Reader_readMove_78 : decode (zb m_Reader_readMove) 78 = .ok (.ior, 1) := zdal_p dlA_Reader_readMove_100 (i := 22) rfl
theorem d_Reader_readMove_79 : decode (zb m_Reader_readMove) 79 = .ok (.istore_n 2, 1) := zdal_p dlA_Reader_readMove_100 (i := 23) rfl
theorem dlA_Reader_readMove_101 : zdal (zb m_Reader_readMove) [(80, (.aload_n 0, 1)), (81, (.getfield 15, 3)), (84, (.invokevirtual 44, 3)), (87, (.iinc 4 1, 3)), (90, (.goto (-83), 3)), (93, (.iload_n 2, 1)), (94, (.ireturn, 1))] = true := zDs 80 (by decide +kernel)
theorem d_Reader_readMove_80 : decode (zb m_Reader_readMove) 80 = .ok (.aload_n 0, 1) := zdal_p dlA_Reader_readMove_101 (i := 0) rfl
theorem d_Reader_readMove_81 : decode (zb m_Reader_readMove) 81 = .ok (.getfield 15, 3) := zdal_p dlA_Reader_readMove_101 (i := 1) rfl
theorem d_Reader_readMove_84 : decode (zb m_Reader_readMove) 84 = .ok (.invokevirtual 44, 3) := zdal_p dlA_Reader_readMove_101 (i := 2) rfl
theorem d_Reader_readMove_87 : decode (zb m_Reader_readMove) 87 = .ok (.iinc 4 1, 3) := zdal_p dlA_Reader_readMove_101 (i := 3) rfl
theorem d_Reader_readMove_90 : decode (zb m_Reader_readMove) 90 = .ok (.goto (-83), 3) := zdal_p dlA_Reader_readMove_101 (i := 4) rfl
theorem d_Reader_readMove_93 : decode (zb m_Reader_readMove) 93 = .ok (.iload_n 2, 1) := zdal_p dlA_Reader_readMove_101 (i := 5) rfl
theorem d_Reader_readMove_94 : decode (zb m_Reader_readMove) 94 = .ok (.ireturn, 1) := zdal_p dlA_Reader_readMove_101 (i := 6) rfl
theorem dlA_Group_addMove_102 : zdal (zb m_Group_addMove) [(0, (.aload_n 0, 1)), (1, (.getfield 36, 3)), (4, (.iconst 4, 1)), (5, (.if_icmp .lt 5, 3)), (8, (.iconst 0, 1)), (9, (.ireturn, 1)), (10, (.aload_n 0, 1)), (11, (.getfield 14, 3)), (14, (.aload_n 0, 1)), (15, (.getfield 36, 3)), (18, (.iload_n 1, 1)), (19, (.invokevirtual 46, 3)), (22, (.aload_n 0, 1)), (23, (.dup, 1)), (24, (.getfield 36, 3)), (27, (.iconst 1, 1)), (28, (.iadd, 1)), (29, (.putfield 36, 3)), (32, (.aload_n 0, 1)), (33, (.invokevirtual 42, 3)), (36, (.ireturn, 1))] = true := zDs 0 (by decide +kernel)
theorem d_Group_addMove_0 : decode (zb m_Group_addMove) 0 = .ok (.aload_n 0, 1) := zdal_p dlA_Group_addMove_102 (i := 0) rfl
theorem d_Group_addMove_1 : decode (zb m_Group_addMove) 1 = .ok (.getfield 36, 3) := zdal_p dlA_Group_addMove_102 (i := 1) rfl
theorem d_Group_addMove_4 : decode (zb m_Group_addMove) 4 = .ok (.iconst 4, 1) := zdal_p dlA_Group_addMove_102 (i := 2) rfl
theorem d_Group_addMove_5 : decode (zb m_Group_addMove) 5 = .ok (.if_icmp .lt 5, 3) := zdal_p dlA_Group_addMove_102 (i := 3) rfl
theorem d_Group_addMove_8 : decode (zb m_Group_addMove) 8 = .ok (.iconst 0, 1) := zdal_p dlA_Group_addMove_102 (i := 4) rfl
theorem d_Group_addMove_9 : decode (zb m_Group_addMove) 9 = .ok (.ireturn, 1) := zdal_p dlA_Group_addMove_102 (i := 5) rfl
theorem d_Group_addMove_10 : decode (zb m_Group_addMove) 10 = .ok (.aload_n 0, 1) := zdal_p dlA_Group_addMove_102 (i := 6) rfl
theorem d_Group_addMove_11 : decode (zb m_Group_addMove) 11 = .ok (.getfield 14, 3) := zdal_p dlA_Group_addMove_102 (i := 7) rfl
theorem d_Group_addMove_14 : decode (zb m_Group_addMove) 14 = .ok (.aload_n 0, 1) := zdal_p dlA_Group_addMove_102 (i := 8) rfl
theorem d_Group_addMove_15 : decode (zb m_Group_addMove) 15 = .ok (.getfield 36, 3) := zdal_p dlA_Group_addMove_102 (i := 9) rfl
theorem d_Group_addMove_18 : decode (zb m_Group_addMove) 18 = .ok (.iload_n 1, 1) := zdal_p dlA_Group_addMove_102 (i := 10) rfl
theorem d_Group_addMove_19 : decode (zb m_Group_addMove) 19 = .ok (.invokevirtual 46, 3) := zdal_p dlA_Group_addMove_102 (i := 11) rfl
theorem d_Group_addMove_22 : decode (zb m_Group_addMove) 22 = .ok (.aload_n 0, 1) := zdal_p dlA_Group_addMove_102 (i := 12) rfl
theorem d_Group_addMove_23 : decode (zb m_Group_addMove) 23 = .ok (.dup, 1) := zdal_p dlA_Group_addMove_102 (i := 13) rfl
theorem d_Group_addMove_24 : decode (zb m_Group_addMove) 24 = .ok (.getfield 36, 3) := zdal_p dlA_Group_addMove_102 (i := 14) rfl
theorem d_Group_addMove_27 : decode (zb m_Group_addMove) 27 = .ok (.iconst 1, 1) := zdal_p dlA_Group_addMove_102 (i := 15) rfl
theorem d_Group_addMove_28 : decode (zb m_Group_addMove) 28 = .ok (.iadd, 1) := zdal_p dlA_Group_addMove_102 (i := 16) rfl
theorem d_Group_addMove_29 : decode (zb m_Group_addMove) 29 = .ok (.putfield 36, 3) := zdal_p dlA_Group_addMove_102 (i := 17) rfl
theorem d_Group_addMove_32 : decode (zb m_Group_addMove) 32 = .ok (.aload_n 0, 1) := zdal_p dlA_Group_addMove_102 (i := 18) rfl
theorem d_Group_addMove_33 : decode (zb m_Group_addMove) 33 = .ok (.invokevirtual 42, 3) := zdal_p dlA_Group_addMove_102 (i := 19) rfl
theorem d_Group_addMove_36 : decode (zb m_Group_addMove) 36 = .ok (.ireturn, 1) := zdal_p dlA_Group_addMove_102 (i := 20) rfl
theorem dlA_Reader_readLets_103 : zdal (zb m_Reader_readLets) [(0, (.iconst 0, 1)), (1, (.istore_n 2, 1)), (2, (.iload_n 2, 1)), (3, (.bipush 8, 2)), (5, (.if_icmp .gt 151, 3)), (8, (.aload_n 0, 1)), (9, (.getfield 15, 3)), (12, (.ldc 96, 2)), (14, (.invokevirtual 49, 3)), (17, (.ifCond .eq 139, 3)), (20, (.aload_n 0, 1)), (21, (.getfield 15, 3)), (24, (.getfield 30, 3)), (27, (.istore_n 3, 1)), (28, (.aload_n 1, 1)), (29, (.getfield 98, 3)), (32, (.bipush 8, 2)), (34, (.if_icmp .lt 9, 3)), (37, (.aload_n 0, 1)), (38, (.iconst 5, 1)), (39, (.invokevirtual 41, 3)), (42, (.ireturn, 1)), (43, (.aload_n 0, 1)), (44, (.getfield 15, 3))] = true := zDs 0 (by decide +kernel)
theorem d_Reader_readLets_0 : decode (zb m_Reader_readLets) 0 = .ok (.iconst 0, 1) := zdal_p dlA_Reader_readLets_103 (i := 0) rfl
theorem d_Reader_readLets_1 : decode (zb m_Reader_readLets) 1 = .ok (.istore_n 2, 1) := zdal_p dlA_Reader_readLets_103 (i := 1) rfl
theorem d_Reader_readLets_2 : decode (zb m_Reader_readLets) 2 = .ok (.iload_n 2, 1) := zdal_p dlA_Reader_readLets_103 (i := 2) rfl
theorem d_Reader_readLets_3 : decode (zb m_Reader_readLets) 3 = .ok (.bipush 8, 2) := zdal_p dlA_Reader_readLets_103 (i := 3) rfl
theorem d_Reader_readLets_5 : decode (zb m_Reader_readLets) 5 = .ok (.if_icmp .gt 151, 3) := zdal_p dlA_Reader_readLets_103 (i := 4) rfl
theorem d_Reader_readLets_8 : decode (zb m_Reader_readLets) 8 = .ok (.aload_n 0, 1) := zdal_p dlA_Reader_readLets_103 (i := 5) rfl
theorem d_Reader_readLets_9 : decode (zb m_Reader_readLets) 9 = .ok (.getfield 15, 3) := zdal_p dlA_Reader_readLets_103 (i := 6) rfl
theorem d_Reader_readLets_12 : decode (zb m_Reader_readLets) 12 = .ok (.ldc 96, 2) := zdal_p dlA_Reader_readLets_103 (i := 7) rfl
theorem d_Reader_readLets_14 : decode (zb m_Reader_readLets) 14 = .ok (.invokevirtual 49, 3) := zdal_p dlA_Reader_readLets_103 (i := 8) rfl
theorem d_Reader_readLets_17 : decode (zb m_Reader_readLets) 17 = .ok (.ifCond .eq 139, 3) := zdal_p dlA_Reader_readLets_103 (i := 9) rfl
theorem d_Reader_readLets_20 : decode (zb m_Reader_readLets) 20 = .ok (.aload_n 0, 1) := zdal_p dlA_Reader_readLets_103 (i := 10) rfl
theorem d_Reader_readLets_21 : decode (zb m_Reader_readLets) 21 = .ok (.getfield 15, 3) := zdal_p dlA_Reader_readLets_103 (i := 11) rfl
theorem d_Reader_readLets_24 : decode (zb m_Reader_readLets) 24 = .ok (.getfield 30, 3) := zdal_p dlA_Reader_readLets_103 (i := 12) rfl
theorem d_Reader_readLets_27 : decode (zb m_Reader_readLets) 27 = .ok (.istore_n 3, 1) := zdal_p dlA_Reader_readLets_103 (i := 13) rfl
theorem d_Reader_readLets_28 : decode (zb m_Reader_readLets) 28 = .ok (.aload_n 1, 1) := zdal_p dlA_Reader_readLets_103 (i := 14) rfl
theorem d_Reader_readLets_29 : decode (zb m_Reader_readLets) 29 = .ok (.getfield 98, 3) := zdal_p dlA_Reader_readLets_103 (i := 15) rfl
theorem d_Reader_readLets_32 : decode (zb m_Reader_readLets) 32 = .ok (.bipush 8, 2) := zdal_p dlA_Reader_readLets_103 (i := 16) rfl
theorem d_Reader_readLets_34 : decode (zb m_Reader_readLets) 34 = .ok (.if_icmp .lt 9, 3) := zdal_p dlA_Reader_readLets_103 (i := 17) rfl
theorem d_Reader_readLets_37 : decode (zb m_Reader_readLets) 37 = .ok (.aload_n 0, 1) := zdal_p dlA_Reader_readLets_103 (i := 18) rfl
theorem d_Reader_readLets_38 : decode (zb m_Reader_readLets) 38 = .ok (.iconst 5, 1) := zdal_p dlA_Reader_readLets_103 (i := 19) rfl
theorem d_Reader_readLets_39 : decode (zb m_Reader_readLets) 39 = .ok (.invokevirtual 41, 3) := zdal_p dlA_Reader_readLets_103 (i := 20) rfl
theorem d_Reader_readLets_42 : decode (zb m_Reader_readLets) 42 = .ok (.ireturn, 1) := zdal_p dlA_Reader_readLets_103 (i := 21) rfl
theorem d_Reader_readLets_43 : decode (zb m_Reader_readLets) 43 = .ok (.aload_n 0, 1) := zdal_p dlA_Reader_readLets_103 (i := 22) rfl
theorem d_Reader_readLets_44 : decode (zb m_Reader_readLets) 44 = .ok (.getfield 15, 3) := zdal_p dlA_Reader_readLets_103 (i := 23) rfl
theorem dlA_Reader_readLets_104 : zdal (zb m_Reader_readLets) [(47, (.invokevirtual 44, 3)), (50, (.aload_n 0, 1)), (51, (.getfield 15, 3)), (54, (.invokevirtual 101, 3)), (57, (.ifCond .ne 9, 3)), (60, (.aload_n 0, 1)), (61, (.iconst 2, 1)), (62, (.invokevirtual 41, 3)), (65, (.ireturn, 1)), (66, (.aload_n 0, 1)), (67, (.getfield 15, 3)), (70, (.getfield 57, 3)), (73, (.istore 4, 2)), (75, (.aload_n 1, 1)), (76, (.iload 4, 2)), (78, (.invokevirtual 104, 3)), (81, (.iconst (-1), 1)), (82, (.if_icmp .eq 9, 3)), (85, (.aload_n 0, 1)), (86, (.iconst 3, 1)), (87, (.invokevirtual 41, 3)), (90, (.ireturn, 1)), (91, (.aload_n 0, 1)), (92, (.getfield 15, 3))] = true := zDs 47 (by decide +kernel)
theorem d_Reader_readLets_47 : decode (zb m_Reader_readLets) 47 = .ok (.invokevirtual 44, 3) := zdal_p dlA_Reader_readLets_104 (i := 0) rfl
theorem d_Reader_readLets_50 : decode (zb m_Reader_readLets) 50 = .ok (.aload_n 0, 1) := zdal_p dlA_Reader_readLets_104 (i := 1) rfl
theorem d_Reader_readLets_51 : decode (zb m_Reader_readLets) 51 = .ok (.getfield 15, 3) := zdal_p dlA_Reader_readLets_104 (i := 2) rfl
theorem d_Reader_readLets_54 : decode (zb m_Reader_readLets) 54 = .ok (.invokevirtual 101, 3) := zdal_p dlA_Reader_readLets_104 (i := 3) rfl
theorem d_Reader_readLets_57 : decode (zb m_Reader_readLets) 57 = .ok (.ifCond .ne 9, 3) := zdal_p dlA_Reader_readLets_104 (i := 4) rfl
theorem d_Reader_readLets_60 : decode (zb m_Reader_readLets) 60 = .ok (.aload_n 0, 1) := zdal_p dlA_Reader_readLets_104 (i := 5) rfl
theorem d_Reader_readLets_61 : decode (zb m_Reader_readLets) 61 = .ok (.iconst 2, 1) := zdal_p dlA_Reader_readLets_104 (i := 6) rfl
theorem d_Reader_readLets_62 : decode (zb m_Reader_readLets) 62 = .ok (.invokevirtual 41, 3) := zdal_p dlA_Reader_readLets_104 (i := 7) rfl
theorem d_Reader_readLets_65 : decode (zb m_Reader_readLets) 65 = .ok (.ireturn, 1) := zdal_p dlA_Reader_readLets_104 (i := 8) rfl
theorem d_Reader_readLets_66 : decode (zb m_Reader_readLets) 66 = .ok (.aload_n 0, 1) := zdal_p dlA_Reader_readLets_104 (i := 9) rfl
theorem d_Reader_readLets_67 : decode (zb m_Reader_readLets) 67 = .ok (.getfield 15, 3) := zdal_p dlA_Reader_readLets_104 (i := 10) rfl
theorem d_Reader_readLets_70 : decode (zb m_Reader_readLets) 70 = .ok (.getfield 57, 3) := zdal_p dlA_Reader_readLets_104 (i := 11) rfl
theorem d_Reader_readLets_73 : decode (zb m_Reader_readLets) 73 = .ok (.istore 4, 2) := zdal_p dlA_Reader_readLets_104 (i := 12) rfl
theorem d_Reader_readLets_75 : decode (zb m_Reader_readLets) 75 = .ok (.aload_n 1, 1) := zdal_p dlA_Reader_readLets_104 (i := 13) rfl
theorem d_Reader_readLets_76 : decode (zb m_Reader_readLets) 76 = .ok (.iload 4, 2) := zdal_p dlA_Reader_readLets_104 (i := 14) rfl
theorem d_Reader_readLets_78 : decode (zb m_Reader_readLets) 78 = .ok (.invokevirtual 104, 3) := zdal_p dlA_Reader_readLets_104 (i := 15) rfl
theorem d_Reader_readLets_81 : decode (zb m_Reader_readLets) 81 = .ok (.iconst (-1), 1) := zdal_p dlA_Reader_readLets_104 (i := 16) rfl
theorem d_Reader_readLets_82 : decode (zb m_Reader_readLets) 82 = .ok (.if_icmp .eq 9, 3) := zdal_p dlA_Reader_readLets_104 (i := 17) rfl
theorem d_Reader_readLets_85 : decode (zb m_Reader_readLets) 85 = .ok (.aload_n 0, 1) := zdal_p dlA_Reader_readLets_104 (i := 18) rfl
theorem d_Reader_readLets_86 : decode (zb m_Reader_readLets) 86 = .ok (.iconst 3, 1) := zdal_p dlA_Reader_readLets_104 (i := 19) rfl
theorem d_Reader_readLets_87 : decode (zb m_Reader_readLets) 87 = .ok (.invokevirtual 41, 3) := zdal_p dlA_Reader_readLets_104 (i := 20) rfl
theorem d_Reader_readLets_90 : decode (zb m_Reader_readLets) 90 = .ok (.ireturn, 1) := zdal_p dlA_Reader_readLets_104 (i := 21) rfl
theorem d_Reader_readLets_91 : decode (zb m_Reader_readLets) 91 = .ok (.aload_n 0, 1) := zdal_p dlA_Reader_readLets_104 (i := 22) rfl
theorem d_Reader_readLets_92 : decode (zb m_Reader_readLets) 92 = .ok (.getfield 15, 3) := zdal_p dlA_Reader_readLets_104 (i := 23) rfl
theorem dlA_Reader_readLets_105 : zdal (zb m_Reader_readLets) [(95, (.invokevirtual 44, 3)), (98, (.aload_n 0, 1)), (99, (.bipush 61, 2)), (101, (.invokevirtual 66, 3)), (104, (.ifCond .eq 20, 3)), (107, (.aload_n 0, 1)), (108, (.aload_n 1, 1)), (109, (.invokevirtual 107, 3)), (112, (.ifCond .eq 12, 3)), (115, (.aload_n 0, 1)), (116, (.bipush 59, 2)), (118, (.invokevirtual 66, 3)), (121, (.ifCond .ne 5, 3)), (124, (.iconst 0, 1)), (125, (.ireturn, 1)), (126, (.aload_n 1, 1)), (127, (.getfield 111, 3)), (130, (.getfield 115, 3)), (133, (.ifCond .eq 11, 3)), (136, (.aload_n 0, 1)), (137, (.bipush 6, 2)), (139, (.iload_n 3, 1)), (140, (.invokevirtual 33, 3)), (143, (.ireturn, 1))] = true := zDs 95 (by decide +kernel)
theorem d_Reader_readLets_95 : decode (zb m_Reader_readLets) 95 = .ok (.invokevirtual 44, 3) := zdal_p dlA_Reader_readLets_105 (i := 0) rfl
theorem d_Reader_readLets_98 : decode (zb m_Reader_readLets) 98 = .ok (.aload_n 0, 1) := zdal_p dlA_Reader_readLets_105 (i := 1) rfl
theorem d_Reader_readLets_99 : decode (zb m_Reader_readLets) 99 = .ok (.bipush 61, 2) := zdal_p dlA_Reader_readLets_105 (i := 2) rfl
theorem d_Reader_readLets_101 : decode (zb m_Reader_readLets) 101 = .ok (.invokevirtual 66, 3) := zdal_p dlA_Reader_readLets_105 (i := 3) rfl
theorem d_Reader_readLets_104 : decode (zb m_Reader_readLets) 104 = .ok (.ifCond .eq 20, 3) := zdal_p dlA_Reader_readLets_105 (i := 4) rfl
theorem d_Reader_readLets_107 : decode (zb m_Reader_readLets) 107 = .ok (.aload_n 0, 1) := zdal_p dlA_Reader_readLets_105 (i := 5) rfl
theorem d_Reader_readLets_108 : decode (zb m_Reader_readLets) 108 = .ok (.aload_n 1, 1) := zdal_p dlA_Reader_readLets_105 (i := 6) rfl
theorem d_Reader_readLets_109 : decode (zb m_Reader_readLets) 109 = .ok (.invokevirtual 107, 3) := zdal_p dlA_Reader_readLets_105 (i := 7) rfl
theorem d_Reader_readLets_112 : decode (zb m_Reader_readLets) 112 = .ok (.ifCond .eq 12, 3) := zdal_p dlA_Reader_readLets_105 (i := 8) rfl
theorem d_Reader_readLets_115 : decode (zb m_Reader_readLets) 115 = .ok (.aload_n 0, 1) := zdal_p dlA_Reader_readLets_105 (i := 9) rfl
theorem d_Reader_readLets_116 : decode (zb m_Reader_readLets) 116 = .ok (.bipush 59, 2) := zdal_p dlA_Reader_readLets_105 (i := 10) rfl
theorem d_Reader_readLets_118 : decode (zb m_Reader_readLets) 118 = .ok (.invokevirtual 66, 3) := zdal_p dlA_Reader_readLets_105 (i := 11) rfl
theorem d_Reader_readLets_121 : decode (zb m_Reader_readLets) 121 = .ok (.ifCond .ne 5, 3) := zdal_p dlA_Reader_readLets_105 (i := 12) rfl
theorem d_Reader_readLets_124 : decode (zb m_Reader_readLets) 124 = .ok (.iconst 0, 1) := zdal_p dlA_Reader_readLets_105 (i := 13) rfl
theorem d_Reader_readLets_125 : decode (zb m_Reader_readLets) 125 = .ok (.ireturn, 1) := zdal_p dlA_Reader_readLets_105 (i := 14) rfl
theorem d_Reader_readLets_126 : decode (zb m_Reader_readLets) 126 = .ok (.aload_n 1, 1) := zdal_p dlA_Reader_readLets_105 (i := 15) rfl
theorem d_Reader_readLets_127 : decode (zb m_Reader_readLets) 127 = .ok (.getfield 111, 3) := zdal_p dlA_Reader_readLets_105 (i := 16) rfl
theorem d_Reader_readLets_130 : decode (zb m_Reader_readLets) 130 = .ok (.getfield 115, 3) := zdal_p dlA_Reader_readLets_105 (i := 17) rfl
theorem d_Reader_readLets_133 : decode (zb m_Reader_readLets) 133 = .ok (.ifCond .eq 11, 3) := zdal_p dlA_Reader_readLets_105 (i := 18) rfl
theorem d_Reader_readLets_136 : decode (zb m_Reader_readLets) 136 = .ok (.aload_n 0, 1) := zdal_p dlA_Reader_readLets_105 (i := 19) rfl
theorem d_Reader_readLets_137 : decode (zb m_Reader_readLets) 137 = .ok (.bipush 6, 2) := zdal_p dlA_Reader_readLets_105 (i := 20) rfl
theorem d_Reader_readLets_139 : decode (zb m_Reader_readLets) 139 = .ok (.iload_n 3, 1) := zdal_p dlA_Reader_readLets_105 (i := 21) rfl
theorem d_Reader_readLets_140 : decode (zb m_Reader_readLets) 140 = .ok (.invokevirtual 33, 3) := zdal_p dlA_Reader_readLets_105 (i := 22) rfl
theorem d_Reader_readLets_143 : decode (zb m_Reader_readLets) 143 = .ok (.ireturn, 1) := zdal_p dlA_Reader_readLets_105 (i := 23) rfl
theorem dlA_Reader_readLets_106 : zdal (zb m_Reader_readLets) [(144, (.aload_n 1, 1)), (145, (.iload 4, 2)), (147, (.invokevirtual 121, 3)), (150, (.iinc 2 1, 3)), (153, (.goto (-151), 3)), (156, (.aload_n 0, 1)), (157, (.getfield 15, 3)), (160, (.getfield 27, 3)), (163, (.ifCond .eq 11, 3)), (166, (.aload_n 0, 1)), (167, (.iconst 2, 1)), (168, (.invokevirtual 41, 3)), (171, (.ifCond .eq 7, 3)), (174, (.iconst 1, 1)), (175, (.goto 4, 3)), (178, (.iconst 0, 1)), (179, (.ireturn, 1))] = true := zDs 144 (by decide +kernel)
theorem d_Reader_readLets_144 : decode (zb m_Reader_readLets) 144 = .ok (.aload_n 1, 1) := zdal_p dlA_Reader_readLets_106 (i := 0) rfl
theorem d_Reader_readLets_145 : decode (zb m_Reader_readLets) 145 = .ok (.iload 4, 2) := zdal_p dlA_Reader_readLets_106 (i := 1) rfl
theorem d_Reader_readLets_147 : decode (zb m_Reader_readLets) 147 = .ok (.invokevirtual 121, 3) := zdal_p dlA_Reader_readLets_106 (i := 2) rfl
theorem d_Reader_readLets_150 : decode (zb m_Reader_readLets) 150 = .ok (.iinc 2 1, 3) := zdal_p dlA_Reader_readLets_106 (i := 3) rfl
theorem d_Reader_readLets_153 : decode (zb m_Reader_readLets) 153 = .ok (.goto (-151), 3) := zdal_p dlA_Reader_readLets_106 (i := 4) rfl
theorem d_Reader_readLets_156 : decode (zb m_Reader_readLets) 156 = .ok (.aload_n 0, 1) := zdal_p dlA_Reader_readLets_106 (i := 5) rfl
theorem d_Reader_readLets_157 : decode (zb m_Reader_readLets) 157 = .ok (.getfield 15, 3) := zdal_p dlA_Reader_readLets_106 (i := 6) rfl
theorem d_Reader_readLets_160 : decode (zb m_Reader_readLets) 160 = .ok (.getfield 27, 3) := zdal_p dlA_Reader_readLets_106 (i := 7) rfl
theorem d_Reader_readLets_163 : decode (zb m_Reader_readLets) 163 = .ok (.ifCond .eq 11, 3) := zdal_p dlA_Reader_readLets_106 (i := 8) rfl
theorem d_Reader_readLets_166 : decode (zb m_Reader_readLets) 166 = .ok (.aload_n 0, 1) := zdal_p dlA_Reader_readLets_106 (i := 9) rfl
theorem d_Reader_readLets_167 : decode (zb m_Reader_readLets) 167 = .ok (.iconst 2, 1) := zdal_p dlA_Reader_readLets_106 (i := 10) rfl
theorem d_Reader_readLets_168 : decode (zb m_Reader_readLets) 168 = .ok (.invokevirtual 41, 3) := zdal_p dlA_Reader_readLets_106 (i := 11) rfl
theorem d_Reader_readLets_171 : decode (zb m_Reader_readLets) 171 = .ok (.ifCond .eq 7, 3) := zdal_p dlA_Reader_readLets_106 (i := 12) rfl
theorem d_Reader_readLets_174 : decode (zb m_Reader_readLets) 174 = .ok (.iconst 1, 1) := zdal_p dlA_Reader_readLets_106 (i := 13) rfl
theorem d_Reader_readLets_175 : decode (zb m_Reader_readLets) 175 = .ok (.goto 4, 3) := zdal_p dlA_Reader_readLets_106 (i := 14) rfl
theorem d_Reader_readLets_178 : decode (zb m_Reader_readLets) 178 = .ok (.iconst 0, 1) := zdal_p dlA_Reader_readLets_106 (i := 15) rfl
theorem d_Reader_readLets_179 : decode (zb m_Reader_readLets) 179 = .ok (.ireturn, 1) := zdal_p dlA_Reader_readLets_106 (i := 16) rfl
theorem dlA_Tokens_isName_107 : zdal (zb m_Tokens_isName) [(0, (.aload_n 0, 1)), (1, (.getfield 44, 3)), (4, (.iconst 1, 1)), (5, (.if_icmp .ne 43, 3)), (8, (.aload_n 0, 1)), (9, (.ldc 85, 2)), (11, (.invokevirtual 87, 3)), (14, (.ifCond .ne 34, 3)), (17, (.aload_n 0, 1)), (18, (.ldc 91, 2)), (20, (.invokevirtual 87, 3)), (23, (.ifCond .ne 25, 3)), (26, (.aload_n 0, 1)), (27, (.ldc 93, 2)), (29, (.invokevirtual 87, 3)), (32, (.ifCond .ne 16, 3)), (35, (.aload_n 0, 1)), (36, (.ldc 95, 2)), (38, (.invokevirtual 87, 3)), (41, (.ifCond .ne 7, 3)), (44, (.iconst 1, 1)), (45, (.goto 4, 3)), (48, (.iconst 0, 1)), (49, (.ireturn, 1))] = true := zDs 0 (by decide +kernel)
theorem d_Tokens_isName_0 : decode (zb m_Tokens_isName) 0 = .ok (.aload_n 0, 1) := zdal_p dlA_Tokens_isName_107 (i := 0) rfl
theorem d_Tokens_isName_1 : decode (zb m_Tokens_isName) 1 = .ok (.getfield 44, 3) := zdal_p dlA_Tokens_isName_107 (i := 1) rfl
theorem d_Tokens_isName_4 : decode (zb m_Tokens_isName) 4 = .ok (.iconst 1, 1) := zdal_p dlA_Tokens_isName_107 (i := 2) rfl
theorem d_Tokens_isName_5 : decode (zb m_Tokens_isName) 5 = .ok (.if_icmp .ne 43, 3) := zdal_p dlA_Tokens_isName_107 (i := 3) rfl
theorem d_Tokens_isName_8 : decode (zb m_Tokens_isName) 8 = .ok (.aload_n 0, 1) := zdal_p dlA_Tokens_isName_107 (i := 4) rfl
theorem d_Tokens_isName_9 : decode (zb m_Tokens_isName) 9 = .ok (.ldc 85, 2) := zdal_p dlA_Tokens_isName_107 (i := 5) rfl
theorem d_Tokens_isName_11 : decode (zb m_Tokens_isName) 11 = .ok (.invokevirtual 87, 3) := zdal_p dlA_Tokens_isName_107 (i := 6) rfl
theorem d_Tokens_isName_14 : decode (zb m_Tokens_isName) 14 = .ok (.ifCond .ne 34, 3) := zdal_p dlA_Tokens_isName_107 (i := 7) rfl
theorem d_Tokens_isName_17 : decode (zb m_Tokens_isName) 17 = .ok (.aload_n 0, 1) := zdal_p dlA_Tokens_isName_107 (i := 8) rfl
theorem d_Tokens_isName_18 : decode (zb m_Tokens_isName) 18 = .ok (.ldc 91, 2) := zdal_p dlA_Tokens_isName_107 (i := 9) rfl
theorem d_Tokens_isName_20 : decode (zb m_Tokens_isName) 20 = .ok (.invokevirtual 87, 3) := zdal_p dlA_Tokens_isName_107 (i := 10) rfl
theorem d_Tokens_isName_23 : decode (zb m_Tokens_isName) 23 = .ok (.ifCond .ne 25, 3) := zdal_p dlA_Tokens_isName_107 (i := 11) rfl
theorem d_Tokens_isName_26 : decode (zb m_Tokens_isName) 26 = .ok (.aload_n 0, 1) := zdal_p dlA_Tokens_isName_107 (i := 12) rfl
theorem d_Tokens_isName_27 : decode (zb m_Tokens_isName) 27 = .ok (.ldc 93, 2) := zdal_p dlA_Tokens_isName_107 (i := 13) rfl
theorem d_Tokens_isName_29 : decode (zb m_Tokens_isName) 29 = .ok (.invokevirtual 87, 3) := zdal_p dlA_Tokens_isName_107 (i := 14) rfl
theorem d_Tokens_isName_32 : decode (zb m_Tokens_isName) 32 = .ok (.ifCond .ne 16, 3) := zdal_p dlA_Tokens_isName_107 (i := 15) rfl
theorem d_Tokens_isName_35 : decode (zb m_Tokens_isName) 35 = .ok (.aload_n 0, 1) := zdal_p dlA_Tokens_isName_107 (i := 16) rfl
theorem d_Tokens_isName_36 : decode (zb m_Tokens_isName) 36 = .ok (.ldc 95, 2) := zdal_p dlA_Tokens_isName_107 (i := 17) rfl
theorem d_Tokens_isName_38 : decode (zb m_Tokens_isName) 38 = .ok (.invokevirtual 87, 3) := zdal_p dlA_Tokens_isName_107 (i := 18) rfl
theorem d_Tokens_isName_41 : decode (zb m_Tokens_isName) 41 = .ok (.ifCond .ne 7, 3) := zdal_p dlA_Tokens_isName_107 (i := 19) rfl
theorem d_Tokens_isName_44 : decode (zb m_Tokens_isName) 44 = .ok (.iconst 1, 1) := zdal_p dlA_Tokens_isName_107 (i := 20) rfl
theorem d_Tokens_isName_45 : decode (zb m_Tokens_isName) 45 = .ok (.goto 4, 3) := zdal_p dlA_Tokens_isName_107 (i := 21) rfl
theorem d_Tokens_isName_48 : decode (zb m_Tokens_isName) 48 = .ok (.iconst 0, 1) := zdal_p dlA_Tokens_isName_107 (i := 22) rfl
theorem d_Tokens_isName_49 : decode (zb m_Tokens_isName) 49 = .ok (.ireturn, 1) := zdal_p dlA_Tokens_isName_107 (i := 23) rfl
theorem dlA_Troupe_nameOf_108 : zdal (zb m_Troupe_nameOf) [(0, (.iconst 0, 1)), (1, (.istore_n 2, 1)), (2, (.iload_n 2, 1)), (3, (.aload_n 0, 1)), (4, (.getfield 64, 3)), (7, (.if_icmp .ge 23, 3)), (10, (.aload_n 0, 1)), (11, (.getfield 57, 3)), (14, (.iload_n 2, 1)), (15, (.invokevirtual 85, 3)), (18, (.iload_n 1, 1)), (19, (.if_icmp .ne 5, 3)), (22, (.iload_n 2, 1)), (23, (.ireturn, 1)), (24, (.iinc 2 1, 3)), (27, (.goto (-25), 3)), (30, (.iconst (-1), 1)), (31, (.ireturn, 1))] = true := zDs 0 (by decide +kernel)
theorem d_Troupe_nameOf_0 : decode (zb m_Troupe_nameOf) 0 = .ok (.iconst 0, 1) := zdal_p dlA_Troupe_nameOf_108 (i := 0) rfl
theorem d_Troupe_nameOf_1 : decode (zb m_Troupe_nameOf) 1 = .ok (.istore_n 2, 1) := zdal_p dlA_Troupe_nameOf_108 (i := 1) rfl
theorem d_Troupe_nameOf_2 : decode (zb m_Troupe_nameOf) 2 = .ok (.iload_n 2, 1) := zdal_p dlA_Troupe_nameOf_108 (i := 2) rfl
theorem d_Troupe_nameOf_3 : decode (zb m_Troupe_nameOf) 3 = .ok (.aload_n 0, 1) := zdal_p dlA_Troupe_nameOf_108 (i := 3) rfl
theorem d_Troupe_nameOf_4 : decode (zb m_Troupe_nameOf) 4 = .ok (.getfield 64, 3) := zdal_p dlA_Troupe_nameOf_108 (i := 4) rfl
theorem d_Troupe_nameOf_7 : decode (zb m_Troupe_nameOf) 7 = .ok (.if_icmp .ge 23, 3) := zdal_p dlA_Troupe_nameOf_108 (i := 5) rfl
theorem d_Troupe_nameOf_10 : decode (zb m_Troupe_nameOf) 10 = .ok (.aload_n 0, 1) := zdal_p dlA_Troupe_nameOf_108 (i := 6) rfl
theorem d_Troupe_nameOf_11 : decode (zb m_Troupe_nameOf) 11 = .ok (.getfield 57, 3) := zdal_p dlA_Troupe_nameOf_108 (i := 7) rfl
theorem d_Troupe_nameOf_14 : decode (zb m_Troupe_nameOf) 14 = .ok (.iload_n 2, 1) := zdal_p dlA_Troupe_nameOf_108 (i := 8) rfl
theorem d_Troupe_nameOf_15 : decode (zb m_Troupe_nameOf) 15 = .ok (.invokevirtual 85, 3) := zdal_p dlA_Troupe_nameOf_108 (i := 9) rfl
theorem d_Troupe_nameOf_18 : decode (zb m_Troupe_nameOf) 18 = .ok (.iload_n 1, 1) := zdal_p dlA_Troupe_nameOf_108 (i := 10) rfl
theorem d_Troupe_nameOf_19 : decode (zb m_Troupe_nameOf) 19 = .ok (.if_icmp .ne 5, 3) := zdal_p dlA_Troupe_nameOf_108 (i := 11) rfl
theorem d_Troupe_nameOf_22 : decode (zb m_Troupe_nameOf) 22 = .ok (.iload_n 2, 1) := zdal_p dlA_Troupe_nameOf_108 (i := 12) rfl
theorem d_Troupe_nameOf_23 : decode (zb m_Troupe_nameOf) 23 = .ok (.ireturn, 1) := zdal_p dlA_Troupe_nameOf_108 (i := 13) rfl
theorem d_Troupe_nameOf_24 : decode (zb m_Troupe_nameOf) 24 = .ok (.iinc 2 1, 3) := zdal_p dlA_Troupe_nameOf_108 (i := 14) rfl
theorem d_Troupe_nameOf_27 : decode (zb m_Troupe_nameOf) 27 = .ok (.goto (-25), 3) := zdal_p dlA_Troupe_nameOf_108 (i := 15) rfl
theorem d_Troupe_nameOf_30 : decode (zb m_Troupe_nameOf) 30 = .ok (.iconst (-1), 1) := zdal_p dlA_Troupe_nameOf_108 (i := 16) rfl
theorem d_Troupe_nameOf_31 : decode (zb m_Troupe_nameOf) 31 = .ok (.ireturn, 1) := zdal_p dlA_Troupe_nameOf_108 (i := 17) rfl
theorem dlA_Reader_readSum_109 : zdal (zb m_Reader_readSum) [(0, (.aload_n 1, 1)), (1, (.getfield 111, 3)), (4, (.astore_n 2, 1)), (5, (.aload_n 2, 1)), (6, (.invokevirtual 124, 3)), (9, (.aload_n 0, 1)), (10, (.iconst 0, 1)), (11, (.putfield 126, 3)), (14, (.iconst 1, 1)), (15, (.istore_n 3, 1)), (16, (.iconst 0, 1)), (17, (.istore 4, 2)), (19, (.iload 4, 2)), (21, (.bipush 30, 2)), (23, (.if_icmp .gt 103, 3)), (26, (.iload_n 3, 1)), (27, (.ifCond .eq 99, 3)), (30, (.aload_n 0, 1)), (31, (.aload_n 2, 1)), (32, (.invokevirtual 129, 3)), (35, (.ifCond .eq 19, 3)), (38, (.aload_n 0, 1)), (39, (.aload_n 1, 1)), (40, (.invokevirtual 133, 3))] = true := zDs 0 (by decide +kernel)
theorem d_Reader_readSum_0 : decode (zb m_Reader_readSum) 0 = .ok (.aload_n 1, 1) := zdal_p dlA_Reader_readSum_109 (i := 0) rfl
theorem d_Reader_readSum_1 : decode (zb m_Reader_readSum) 1 = .ok (.getfield 111, 3) := zdal_p dlA_Reader_readSum_109 (i := 1) rfl
theorem d_Reader_readSum_4 : decode (zb m_Reader_readSum) 4 = .ok (.astore_n 2, 1) := zdal_p dlA_Reader_readSum_109 (i := 2) rfl
theorem d_Reader_readSum_5 : decode (zb m_Reader_readSum) 5 = .ok (.aload_n 2, 1) := zdal_p dlA_Reader_readSum_109 (i := 3) rfl
theorem d_Reader_readSum_6 : decode (zb m_Reader_readSum) 6 = .ok (.invokevirtual 124, 3) := zdal_p dlA_Reader_readSum_109 (i := 4) rfl
theorem d_Reader_readSum_9 : decode (zb m_Reader_readSum) 9 = .ok (.aload_n 0, 1) := zdal_p dlA_Reader_readSum_109 (i := 5) rfl
theorem d_Reader_readSum_10 : decode (zb m_Reader_readSum) 10 = .ok (.iconst 0, 1) := zdal_p dlA_Reader_readSum_109 (i := 6) rfl
theorem d_Reader_readSum_11 : decode (zb m_Reader_readSum) 11 = .ok (.putfield 126, 3) := zdal_p dlA_Reader_readSum_109 (i := 7) rfl
theorem d_Reader_readSum_14 : decode (zb m_Reader_readSum) 14 = .ok (.iconst 1, 1) := zdal_p dlA_Reader_readSum_109 (i := 8) rfl
theorem d_Reader_readSum_15 : decode (zb m_Reader_readSum) 15 = .ok (.istore_n 3, 1) := zdal_p dlA_Reader_readSum_109 (i := 9) rfl
theorem d_Reader_readSum_16 : decode (zb m_Reader_readSum) 16 = .ok (.iconst 0, 1) := zdal_p dlA_Reader_readSum_109 (i := 10) rfl
theorem d_Reader_readSum_17 : decode (zb m_Reader_readSum) 17 = .ok (.istore 4, 2) := zdal_p dlA_Reader_readSum_109 (i := 11) rfl
theorem d_Reader_readSum_19 : decode (zb m_Reader_readSum) 19 = .ok (.iload 4, 2) := zdal_p dlA_Reader_readSum_109 (i := 12) rfl
theorem d_Reader_readSum_21 : decode (zb m_Reader_readSum) 21 = .ok (.bipush 30, 2) := zdal_p dlA_Reader_readSum_109 (i := 13) rfl
theorem d_Reader_readSum_23 : decode (zb m_Reader_readSum) 23 = .ok (.if_icmp .gt 103, 3) := zdal_p dlA_Reader_readSum_109 (i := 14) rfl
theorem d_Reader_readSum_26 : decode (zb m_Reader_readSum) 26 = .ok (.iload_n 3, 1) := zdal_p dlA_Reader_readSum_109 (i := 15) rfl
theorem d_Reader_readSum_27 : decode (zb m_Reader_readSum) 27 = .ok (.ifCond .eq 99, 3) := zdal_p dlA_Reader_readSum_109 (i := 16) rfl
theorem d_Reader_readSum_30 : decode (zb m_Reader_readSum) 30 = .ok (.aload_n 0, 1) := zdal_p dlA_Reader_readSum_109 (i := 17) rfl
theorem d_Reader_readSum_31 : decode (zb m_Reader_readSum) 31 = .ok (.aload_n 2, 1) := zdal_p dlA_Reader_readSum_109 (i := 18) rfl
theorem d_Reader_readSum_32 : decode (zb m_Reader_readSum) 32 = .ok (.invokevirtual 129, 3) := zdal_p dlA_Reader_readSum_109 (i := 19) rfl
theorem d_Reader_readSum_35 : decode (zb m_Reader_readSum) 35 = .ok (.ifCond .eq 19, 3) := zdal_p dlA_Reader_readSum_109 (i := 20) rfl
theorem d_Reader_readSum_38 : decode (zb m_Reader_readSum) 38 = .ok (.aload_n 0, 1) := zdal_p dlA_Reader_readSum_109 (i := 21) rfl
theorem d_Reader_readSum_39 : decode (zb m_Reader_readSum) 39 = .ok (.aload_n 1, 1) := zdal_p dlA_Reader_readSum_109 (i := 22) rfl
theorem d_Reader_readSum_40 : decode (zb m_Reader_readSum) 40 = .ok (.invokevirtual 133, 3) := zdal_p dlA_Reader_readSum_109 (i := 23) rfl
theorem dlA_Reader_readSum_110 : zdal (zb m_Reader_readSum) [(43, (.ifCond .eq 11, 3)), (46, (.aload_n 0, 1)), (47, (.aload_n 2, 1)), (48, (.invokevirtual 136, 3)), (51, (.ifCond .ne 5, 3)), (54, (.iconst 0, 1)), (55, (.ireturn, 1)), (56, (.aload_n 0, 1)), (57, (.getfield 15, 3)), (60, (.bipush 43, 2)), (62, (.invokevirtual 37, 3)), (65, (.ifCond .ne 27, 3)), (68, (.aload_n 0, 1)), (69, (.getfield 15, 3)), (72, (.bipush 45, 2)), (74, (.invokevirtual 37, 3)), (77, (.ifCond .ne 15, 3)), (80, (.aload_n 0, 1)), (81, (.getfield 15, 3)), (84, (.bipush 42, 2)), (86, (.invokevirtual 37, 3)), (89, (.ifCond .eq 7, 3)), (92, (.iconst 1, 1)), (93, (.goto 4, 3))] = true := zDs 43 (by decide +kernel)
theorem d_Reader_readSum_43 : decode (zb m_Reader_readSum) 43 = .ok (.ifCond .eq 11, 3) := zdal_p dlA_Reader_readSum_110 (i := 0) rfl
theorem d_Reader_readSum_46 : decode (zb m_Reader_readSum) 46 = .ok (.aload_n 0, 1) := zdal_p dlA_Reader_readSum_110 (i := 1) rfl
theorem d_Reader_readSum_47 : decode (zb m_Reader_readSum) 47 = .ok (.aload_n 2, 1) := zdal_p dlA_Reader_readSum_110 (i := 2) rfl
theorem d_Reader_readSum_48 : decode (zb m_Reader_readSum) 48 = .ok (.invokevirtual 136, 3) := zdal_p dlA_Reader_readSum_110 (i := 3) rfl
theorem d_Reader_readSum_51 : decode (zb m_Reader_readSum) 51 = .ok (.ifCond .ne 5, 3) := zdal_p dlA_Reader_readSum_110 (i := 4) rfl
theorem d_Reader_readSum_54 : decode (zb m_Reader_readSum) 54 = .ok (.iconst 0, 1) := zdal_p dlA_Reader_readSum_110 (i := 5) rfl
theorem d_Reader_readSum_55 : decode (zb m_Reader_readSum) 55 = .ok (.ireturn, 1) := zdal_p dlA_Reader_readSum_110 (i := 6) rfl
theorem d_Reader_readSum_56 : decode (zb m_Reader_readSum) 56 = .ok (.aload_n 0, 1) := zdal_p dlA_Reader_readSum_110 (i := 7) rfl
theorem d_Reader_readSum_57 : decode (zb m_Reader_readSum) 57 = .ok (.getfield 15, 3) := zdal_p dlA_Reader_readSum_110 (i := 8) rfl
theorem d_Reader_readSum_60 : decode (zb m_Reader_readSum) 60 = .ok (.bipush 43, 2) := zdal_p dlA_Reader_readSum_110 (i := 9) rfl
theorem d_Reader_readSum_62 : decode (zb m_Reader_readSum) 62 = .ok (.invokevirtual 37, 3) := zdal_p dlA_Reader_readSum_110 (i := 10) rfl
theorem d_Reader_readSum_65 : decode (zb m_Reader_readSum) 65 = .ok (.ifCond .ne 27, 3) := zdal_p dlA_Reader_readSum_110 (i := 11) rfl
theorem d_Reader_readSum_68 : decode (zb m_Reader_readSum) 68 = .ok (.aload_n 0, 1) := zdal_p dlA_Reader_readSum_110 (i := 12) rfl
theorem d_Reader_readSum_69 : decode (zb m_Reader_readSum) 69 = .ok (.getfield 15, 3) := zdal_p dlA_Reader_readSum_110 (i := 13) rfl
theorem d_Reader_readSum_72 : decode (zb m_Reader_readSum) 72 = .ok (.bipush 45, 2) := zdal_p dlA_Reader_readSum_110 (i := 14) rfl
theorem d_Reader_readSum_74 : decode (zb m_Reader_readSum) 74 = .ok (.invokevirtual 37, 3) := zdal_p dlA_Reader_readSum_110 (i := 15) rfl
theorem d_Reader_readSum_77 : decode (zb m_Reader_readSum) 77 = .ok (.ifCond .ne 15, 3) := zdal_p dlA_Reader_readSum_110 (i := 16) rfl
theorem d_Reader_readSum_80 : decode (zb m_Reader_readSum) 80 = .ok (.aload_n 0, 1) := zdal_p dlA_Reader_readSum_110 (i := 17) rfl
theorem d_Reader_readSum_81 : decode (zb m_Reader_readSum) 81 = .ok (.getfield 15, 3) := zdal_p dlA_Reader_readSum_110 (i := 18) rfl
theorem d_Reader_readSum_84 : decode (zb m_Reader_readSum) 84 = .ok (.bipush 42, 2) := zdal_p dlA_Reader_readSum_110 (i := 19) rfl
theorem d_Reader_readSum_86 : decode (zb m_Reader_readSum) 86 = .ok (.invokevirtual 37, 3) := zdal_p dlA_Reader_readSum_110 (i := 20) rfl
theorem d_Reader_readSum_89 : decode (zb m_Reader_readSum) 89 = .ok (.ifCond .eq 7, 3) := zdal_p dlA_Reader_readSum_110 (i := 21) rfl
theorem d_Reader_readSum_92 : decode (zb m_Reader_readSum) 92 = .ok (.iconst 1, 1) := zdal_p dlA_Reader_readSum_110 (i := 22) rfl
theorem d_Reader_readSum_93 : decode (zb m_Reader_readSum) 93 = .ok (.goto 4, 3) := zdal_p dlA_Reader_readSum_110 (i := 23) rfl
theorem dlA_Reader_readSum_111 : zdal (zb m_Reader_readSum) [(96, (.iconst 0, 1)), (97, (.istore_n 3, 1)), (98, (.iload_n 3, 1)), (99, (.ifCond .eq 21, 3)), (102, (.aload_n 2, 1)), (103, (.aload_n 0, 1)), (104, (.getfield 15, 3)), (107, (.getfield 57, 3)), (110, (.invokevirtual 139, 3)), (113, (.aload_n 0, 1)), (114, (.getfield 15, 3)), (117, (.invokevirtual 44, 3)), (120, (.iinc 4 1, 3)), (123, (.goto (-104), 3)), (126, (.aload_n 2, 1)), (127, (.getfield 142, 3)), (130, (.ifCond .le 9, 3)), (133, (.aload_n 0, 1)), (134, (.iconst 2, 1)), (135, (.invokevirtual 41, 3)), (138, (.ireturn, 1)), (139, (.aload_n 2, 1)), (140, (.iconst 0, 1)), (141, (.invokevirtual 145, 3))] = true := zDs 96 (by decide +kernel)
theorem d_Reader_readSum_96 : decode (zb m_Reader_readSum) 96 = .ok (.iconst 0, 1) := zdal_p dlA_Reader_readSum_111 (i := 0) rfl
theorem d_Reader_readSum_97 : decode (zb m_Reader_readSum) 97 = .ok (.istore_n 3, 1) := zdal_p dlA_Reader_readSum_111 (i := 1) rfl
theorem d_Reader_readSum_98 : decode (zb m_Reader_readSum) 98 = .ok (.iload_n 3, 1) := zdal_p dlA_Reader_readSum_111 (i := 2) rfl
theorem d_Reader_readSum_99 : decode (zb m_Reader_readSum) 99 = .ok (.ifCond .eq 21, 3) := zdal_p dlA_Reader_readSum_111 (i := 3) rfl
theorem d_Reader_readSum_102 : decode (zb m_Reader_readSum) 102 = .ok (.aload_n 2, 1) := zdal_p dlA_Reader_readSum_111 (i := 4) rfl
theorem d_Reader_readSum_103 : decode (zb m_Reader_readSum) 103 = .ok (.aload_n 0, 1) := zdal_p dlA_Reader_readSum_111 (i := 5) rfl
theorem d_Reader_readSum_104 : decode (zb m_Reader_readSum) 104 = .ok (.getfield 15, 3) := zdal_p dlA_Reader_readSum_111 (i := 6) rfl
theorem d_Reader_readSum_107 : decode (zb m_Reader_readSum) 107 = .ok (.getfield 57, 3) := zdal_p dlA_Reader_readSum_111 (i := 7) rfl
theorem d_Reader_readSum_110 : decode (zb m_Reader_readSum) 110 = .ok (.invokevirtual 139, 3) := zdal_p dlA_Reader_readSum_111 (i := 8) rfl
theorem d_Reader_readSum_113 : decode (zb m_Reader_readSum) 113 = .ok (.aload_n 0, 1) := zdal_p dlA_Reader_readSum_111 (i := 9) rfl
theorem d_Reader_readSum_114 : decode (zb m_Reader_readSum) 114 = .ok (.getfield 15, 3) := zdal_p dlA_Reader_readSum_111 (i := 10) rfl
theorem d_Reader_readSum_117 : decode (zb m_Reader_readSum) 117 = .ok (.invokevirtual 44, 3) := zdal_p dlA_Reader_readSum_111 (i := 11) rfl
theorem d_Reader_readSum_120 : decode (zb m_Reader_readSum) 120 = .ok (.iinc 4 1, 3) := zdal_p dlA_Reader_readSum_111 (i := 12) rfl
theorem d_Reader_readSum_123 : decode (zb m_Reader_readSum) 123 = .ok (.goto (-104), 3) := zdal_p dlA_Reader_readSum_111 (i := 13) rfl
theorem d_Reader_readSum_126 : decode (zb m_Reader_readSum) 126 = .ok (.aload_n 2, 1) := zdal_p dlA_Reader_readSum_111 (i := 14) rfl
theorem d_Reader_readSum_127 : decode (zb m_Reader_readSum) 127 = .ok (.getfield 142, 3) := zdal_p dlA_Reader_readSum_111 (i := 15) rfl
theorem d_Reader_readSum_130 : decode (zb m_Reader_readSum) 130 = .ok (.ifCond .le 9, 3) := zdal_p dlA_Reader_readSum_111 (i := 16) rfl
theorem d_Reader_readSum_133 : decode (zb m_Reader_readSum) 133 = .ok (.aload_n 0, 1) := zdal_p dlA_Reader_readSum_111 (i := 17) rfl
theorem d_Reader_readSum_134 : decode (zb m_Reader_readSum) 134 = .ok (.iconst 2, 1) := zdal_p dlA_Reader_readSum_111 (i := 18) rfl
theorem d_Reader_readSum_135 : decode (zb m_Reader_readSum) 135 = .ok (.invokevirtual 41, 3) := zdal_p dlA_Reader_readSum_111 (i := 19) rfl
theorem d_Reader_readSum_138 : decode (zb m_Reader_readSum) 138 = .ok (.ireturn, 1) := zdal_p dlA_Reader_readSum_111 (i := 20) rfl
theorem d_Reader_readSum_139 : decode (zb m_Reader_readSum) 139 = .ok (.aload_n 2, 1) := zdal_p dlA_Reader_readSum_111 (i := 21) rfl
theorem d_Reader_readSum_140 : decode (zb m_Reader_readSum) 140 = .ok (.iconst 0, 1) := zdal_p dlA_Reader_readSum_111 (i := 22) rfl
theorem d_Reader_readSum_141 : decode (zb m_Reader_readSum) 141 = .ok (.invokevirtual 145, 3) := zdal_p dlA_Reader_readSum_111 (i := 23) rfl
theorem dlA_Reader_readSum_112 : zdal (zb m_Reader_readSum) [(144, (.iconst 1, 1)), (145, (.ireturn, 1))] = true := zDs 144 (by decide +kernel)
theorem d_Reader_readSum_144 : decode (zb m_Reader_readSum) 144 = .ok (.iconst 1, 1) := zdal_p dlA_Reader_readSum_112 (i := 0) rfl
theorem d_Reader_readSum_145 : decode (zb m_Reader_readSum) 145 = .ok (.ireturn, 1) := zdal_p dlA_Reader_readSum_112 (i := 1) rfl
theorem dlA_Calc_begin_113 : zdal (zb m_Calc_begin) [(0, (.aload_n 0, 1)), (1, (.iconst 0, 1)), (2, (.putfield 24, 3)), (5, (.aload_n 0, 1)), (6, (.iconst 0, 1)), (7, (.putfield 28, 3)), (10, (.aload_n 0, 1)), (11, (.iconst 0, 1)), (12, (.putfield 31, 3)), (15, (.aload_n 0, 1)), (16, (.iconst 0, 1)), (17, (.putfield 34, 3)), (20, (.aload_n 0, 1)), (21, (.iconst 0, 1)), (22, (.putfield 37, 3)), (25, (.return_, 1))] = true := zDs 0 (by decide +kernel)
theorem d_Calc_begin_0 : decode (zb m_Calc_begin) 0 = .ok (.aload_n 0, 1) := zdal_p dlA_Calc_begin_113 (i := 0) rfl
theorem d_Calc_begin_1 : decode (zb m_Calc_begin) 1 = .ok (.iconst 0, 1) := zdal_p dlA_Calc_begin_113 (i := 1) rfl
theorem d_Calc_begin_2 : decode (zb m_Calc_begin) 2 = .ok (.putfield 24, 3) := zdal_p dlA_Calc_begin_113 (i := 2) rfl
theorem d_Calc_begin_5 : decode (zb m_Calc_begin) 5 = .ok (.aload_n 0, 1) := zdal_p dlA_Calc_begin_113 (i := 3) rfl
theorem d_Calc_begin_6 : decode (zb m_Calc_begin) 6 = .ok (.iconst 0, 1) := zdal_p dlA_Calc_begin_113 (i := 4) rfl
theorem d_Calc_begin_7 : decode (zb m_Calc_begin) 7 = .ok (.putfield 28, 3) := zdal_p dlA_Calc_begin_113 (i := 5) rfl
theorem d_Calc_begin_10 : decode (zb m_Calc_begin) 10 = .ok (.aload_n 0, 1) := zdal_p dlA_Calc_begin_113 (i := 6) rfl
theorem d_Calc_begin_11 : decode (zb m_Calc_begin) 11 = .ok (.iconst 0, 1) := zdal_p dlA_Calc_begin_113 (i := 7) rfl
theorem d_Calc_begin_12 : decode (zb m_Calc_begin) 12 = .ok (.putfield 31, 3) := zdal_p dlA_Calc_begin_113 (i := 8) rfl
theorem d_Calc_begin_15 : decode (zb m_Calc_begin) 15 = .ok (.aload_n 0, 1) := zdal_p dlA_Calc_begin_113 (i := 9) rfl
theorem d_Calc_begin_16 : decode (zb m_Calc_begin) 16 = .ok (.iconst 0, 1) := zdal_p dlA_Calc_begin_113 (i := 10) rfl
theorem d_Calc_begin_17 : decode (zb m_Calc_begin) 17 = .ok (.putfield 34, 3) := zdal_p dlA_Calc_begin_113 (i := 11) rfl
theorem d_Calc_begin_20 : decode (zb m_Calc_begin) 20 = .ok (.aload_n 0, 1) := zdal_p dlA_Calc_begin_113 (i := 12) rfl
theorem d_Calc_begin_21 : decode (zb m_Calc_begin) 21 = .ok (.iconst 0, 1) := zdal_p dlA_Calc_begin_113 (i := 13) rfl
theorem d_Calc_begin_22 : decode (zb m_Calc_begin) 22 = .ok (.putfield 37, 3) := zdal_p dlA_Calc_begin_113 (i := 14) rfl
theorem d_Calc_begin_25 : decode (zb m_Calc_begin) 25 = .ok (.return_, 1) := zdal_p dlA_Calc_begin_113 (i := 15) rfl
theorem dlA_Reader_readAhead_114 : zdal (zb m_Reader_readAhead) [(0, (.iconst 0, 1)), (1, (.istore_n 2, 1)), (2, (.iload_n 2, 1)), (3, (.bipush 30, 2)), (5, (.if_icmp .gt 59, 3)), (8, (.aload_n 0, 1)), (9, (.getfield 15, 3)), (12, (.bipush 40, 2)), (14, (.invokevirtual 37, 3)), (17, (.istore_n 3, 1)), (18, (.iload_n 3, 1)), (19, (.ifCond .ne 17, 3)), (22, (.aload_n 0, 1)), (23, (.getfield 15, 3)), (26, (.bipush 45, 2)), (28, (.invokevirtual 37, 3)), (31, (.ifCond .ne 5, 3)), (34, (.iconst 1, 1)), (35, (.ireturn, 1)), (36, (.aload_n 0, 1)), (37, (.aload_n 1, 1)), (38, (.invokevirtual 152, 3)), (41, (.ifCond .ne 5, 3)), (44, (.iconst 0, 1))] = true := zDs 0 (by decide +kernel)
theorem d_Reader_readAhead_0 : decode (zb m_Reader_readAhead) 0 = .ok (.iconst 0, 1) := zdal_p dlA_Reader_readAhead_114 (i := 0) rfl
theorem d_Reader_readAhead_1 : decode (zb m_Reader_readAhead) 1 = .ok (.istore_n 2, 1) := zdal_p dlA_Reader_readAhead_114 (i := 1) rfl
theorem d_Reader_readAhead_2 : decode (zb m_Reader_readAhead) 2 = .ok (.iload_n 2, 1) := zdal_p dlA_Reader_readAhead_114 (i := 2) rfl
theorem d_Reader_readAhead_3 : decode (zb m_Reader_readAhead) 3 = .ok (.bipush 30, 2) := zdal_p dlA_Reader_readAhead_114 (i := 3) rfl
theorem d_Reader_readAhead_5 : decode (zb m_Reader_readAhead) 5 = .ok (.if_icmp .gt 59, 3) := zdal_p dlA_Reader_readAhead_114 (i := 4) rfl
theorem d_Reader_readAhead_8 : decode (zb m_Reader_readAhead) 8 = .ok (.aload_n 0, 1) := zdal_p dlA_Reader_readAhead_114 (i := 5) rfl
theorem d_Reader_readAhead_9 : decode (zb m_Reader_readAhead) 9 = .ok (.getfield 15, 3) := zdal_p dlA_Reader_readAhead_114 (i := 6) rfl
theorem d_Reader_readAhead_12 : decode (zb m_Reader_readAhead) 12 = .ok (.bipush 40, 2) := zdal_p dlA_Reader_readAhead_114 (i := 7) rfl
theorem d_Reader_readAhead_14 : decode (zb m_Reader_readAhead) 14 = .ok (.invokevirtual 37, 3) := zdal_p dlA_Reader_readAhead_114 (i := 8) rfl
theorem d_Reader_readAhead_17 : decode (zb m_Reader_readAhead) 17 = .ok (.istore_n 3, 1) := zdal_p dlA_Reader_readAhead_114 (i := 9) rfl
theorem d_Reader_readAhead_18 : decode (zb m_Reader_readAhead) 18 = .ok (.iload_n 3, 1) := zdal_p dlA_Reader_readAhead_114 (i := 10) rfl
theorem d_Reader_readAhead_19 : decode (zb m_Reader_readAhead) 19 = .ok (.ifCond .ne 17, 3) := zdal_p dlA_Reader_readAhead_114 (i := 11) rfl
theorem d_Reader_readAhead_22 : decode (zb m_Reader_readAhead) 22 = .ok (.aload_n 0, 1) := zdal_p dlA_Reader_readAhead_114 (i := 12) rfl
theorem d_Reader_readAhead_23 : decode (zb m_Reader_readAhead) 23 = .ok (.getfield 15, 3) := zdal_p dlA_Reader_readAhead_114 (i := 13) rfl
theorem d_Reader_readAhead_26 : decode (zb m_Reader_readAhead) 26 = .ok (.bipush 45, 2) := zdal_p dlA_Reader_readAhead_114 (i := 14) rfl
theorem d_Reader_readAhead_28 : decode (zb m_Reader_readAhead) 28 = .ok (.invokevirtual 37, 3) := zdal_p dlA_Reader_readAhead_114 (i := 15) rfl
theorem d_Reader_readAhead_31 : decode (zb m_Reader_readAhead) 31 = .ok (.ifCond .ne 5, 3) := zdal_p dlA_Reader_readAhead_114 (i := 16) rfl
theorem d_Reader_readAhead_34 : decode (zb m_Reader_readAhead) 34 = .ok (.iconst 1, 1) := zdal_p dlA_Reader_readAhead_114 (i := 17) rfl
theorem d_Reader_readAhead_35 : decode (zb m_Reader_readAhead) 35 = .ok (.ireturn, 1) := zdal_p dlA_Reader_readAhead_114 (i := 18) rfl
theorem d_Reader_readAhead_36 : decode (zb m_Reader_readAhead) 36 = .ok (.aload_n 0, 1) := zdal_p dlA_Reader_readAhead_114 (i := 19) rfl
theorem d_Reader_readAhead_37 : decode (zb m_Reader_readAhead) 37 = .ok (.aload_n 1, 1) := zdal_p dlA_Reader_readAhead_114 (i := 20) rfl
theorem d_Reader_readAhead_38 : decode (zb m_Reader_readAhead) 38 = .ok (.invokevirtual 152, 3) := zdal_p dlA_Reader_readAhead_114 (i := 21) rfl
theorem d_Reader_readAhead_41 : decode (zb m_Reader_readAhead) 41 = .ok (.ifCond .ne 5, 3) := zdal_p dlA_Reader_readAhead_114 (i := 22) rfl
theorem d_Reader_readAhead_44 : decode (zb m_Reader_readAhead) 44 = .ok (.iconst 0, 1) := zdal_p dlA_Reader_readAhead_114 (i := 23) rfl
theorem dlA_Reader_readAhead_115 : zdal (zb m_Reader_readAhead) [(45, (.ireturn, 1)), (46, (.aload_n 1, 1)), (47, (.iload_n 3, 1)), (48, (.invokevirtual 155, 3)), (51, (.aload_n 0, 1)), (52, (.getfield 15, 3)), (55, (.invokevirtual 44, 3)), (58, (.iinc 2 1, 3)), (61, (.goto (-59), 3)), (64, (.aload_n 0, 1)), (65, (.iconst 5, 1)), (66, (.invokevirtual 41, 3)), (69, (.ireturn, 1))] = true := zDs 45 (by decide +kernel)
theorem d_Reader_readAhead_45 : decode (zb m_Reader_readAhead) 45 = .ok (.ireturn, 1) := zdal_p dlA_Reader_readAhead_115 (i := 0) rfl
theorem d_Reader_readAhead_46 : decode (zb m_Reader_readAhead) 46 = .ok (.aload_n 1, 1) := zdal_p dlA_Reader_readAhead_115 (i := 1) rfl
theorem d_Reader_readAhead_47 : decode (zb m_Reader_readAhead) 47 = .ok (.iload_n 3, 1) := zdal_p dlA_Reader_readAhead_115 (i := 2) rfl
theorem d_Reader_readAhead_48 : decode (zb m_Reader_readAhead) 48 = .ok (.invokevirtual 155, 3) := zdal_p dlA_Reader_readAhead_115 (i := 3) rfl
theorem d_Reader_readAhead_51 : decode (zb m_Reader_readAhead) 51 = .ok (.aload_n 0, 1) := zdal_p dlA_Reader_readAhead_115 (i := 4) rfl
theorem d_Reader_readAhead_52 : decode (zb m_Reader_readAhead) 52 = .ok (.getfield 15, 3) := zdal_p dlA_Reader_readAhead_115 (i := 5) rfl
theorem d_Reader_readAhead_55 : decode (zb m_Reader_readAhead) 55 = .ok (.invokevirtual 44, 3) := zdal_p dlA_Reader_readAhead_115 (i := 6) rfl
theorem d_Reader_readAhead_58 : decode (zb m_Reader_readAhead) 58 = .ok (.iinc 2 1, 3) := zdal_p dlA_Reader_readAhead_115 (i := 7) rfl
theorem d_Reader_readAhead_61 : decode (zb m_Reader_readAhead) 61 = .ok (.goto (-59), 3) := zdal_p dlA_Reader_readAhead_115 (i := 8) rfl
theorem d_Reader_readAhead_64 : decode (zb m_Reader_readAhead) 64 = .ok (.aload_n 0, 1) := zdal_p dlA_Reader_readAhead_115 (i := 9) rfl
theorem d_Reader_readAhead_65 : decode (zb m_Reader_readAhead) 65 = .ok (.iconst 5, 1) := zdal_p dlA_Reader_readAhead_115 (i := 10) rfl
theorem d_Reader_readAhead_66 : decode (zb m_Reader_readAhead) 66 = .ok (.invokevirtual 41, 3) := zdal_p dlA_Reader_readAhead_115 (i := 11) rfl
theorem d_Reader_readAhead_69 : decode (zb m_Reader_readAhead) 69 = .ok (.ireturn, 1) := zdal_p dlA_Reader_readAhead_115 (i := 12) rfl
theorem dlA_Reader_countUnit_116 : zdal (zb m_Reader_countUnit) [(0, (.aload_n 0, 1)), (1, (.getfield 126, 3)), (4, (.bipush 30, 2)), (6, (.if_icmp .ge 12, 3)), (9, (.aload_n 1, 1)), (10, (.getfield 149, 3)), (13, (.bipush 6, 2)), (15, (.if_icmp .le 9, 3)), (18, (.aload_n 0, 1)), (19, (.iconst 5, 1)), (20, (.invokevirtual 41, 3)), (23, (.ireturn, 1)), (24, (.aload_n 0, 1)), (25, (.dup, 1)), (26, (.getfield 126, 3)), (29, (.iconst 1, 1)), (30, (.iadd, 1)), (31, (.putfield 126, 3)), (34, (.iconst 1, 1)), (35, (.ireturn, 1))] = true := zDs 0 (by decide +kernel)
theorem d_Reader_countUnit_0 : decode (zb m_Reader_countUnit) 0 = .ok (.aload_n 0, 1) := zdal_p dlA_Reader_countUnit_116 (i := 0) rfl
theorem d_Reader_countUnit_1 : decode (zb m_Reader_countUnit) 1 = .ok (.getfield 126, 3) := zdal_p dlA_Reader_countUnit_116 (i := 1) rfl
theorem d_Reader_countUnit_4 : decode (zb m_Reader_countUnit) 4 = .ok (.bipush 30, 2) := zdal_p dlA_Reader_countUnit_116 (i := 2) rfl
theorem d_Reader_countUnit_6 : decode (zb m_Reader_countUnit) 6 = .ok (.if_icmp .ge 12, 3) := zdal_p dlA_Reader_countUnit_116 (i := 3) rfl
theorem d_Reader_countUnit_9 : decode (zb m_Reader_countUnit) 9 = .ok (.aload_n 1, 1) := zdal_p dlA_Reader_countUnit_116 (i := 4) rfl
theorem d_Reader_countUnit_10 : decode (zb m_Reader_countUnit) 10 = .ok (.getfield 149, 3) := zdal_p dlA_Reader_countUnit_116 (i := 5) rfl
theorem d_Reader_countUnit_13 : decode (zb m_Reader_countUnit) 13 = .ok (.bipush 6, 2) := zdal_p dlA_Reader_countUnit_116 (i := 6) rfl
theorem d_Reader_countUnit_15 : decode (zb m_Reader_countUnit) 15 = .ok (.if_icmp .le 9, 3) := zdal_p dlA_Reader_countUnit_116 (i := 7) rfl
theorem d_Reader_countUnit_18 : decode (zb m_Reader_countUnit) 18 = .ok (.aload_n 0, 1) := zdal_p dlA_Reader_countUnit_116 (i := 8) rfl
theorem d_Reader_countUnit_19 : decode (zb m_Reader_countUnit) 19 = .ok (.iconst 5, 1) := zdal_p dlA_Reader_countUnit_116 (i := 9) rfl
theorem d_Reader_countUnit_20 : decode (zb m_Reader_countUnit) 20 = .ok (.invokevirtual 41, 3) := zdal_p dlA_Reader_countUnit_116 (i := 10) rfl
theorem d_Reader_countUnit_23 : decode (zb m_Reader_countUnit) 23 = .ok (.ireturn, 1) := zdal_p dlA_Reader_countUnit_116 (i := 11) rfl
theorem d_Reader_countUnit_24 : decode (zb m_Reader_countUnit) 24 = .ok (.aload_n 0, 1) := zdal_p dlA_Reader_countUnit_116 (i := 12) rfl
theorem d_Reader_countUnit_25 : decode (zb m_Reader_countUnit) 25 = .ok (.dup, 1) := zdal_p dlA_Reader_countUnit_116 (i := 13) rfl
theorem d_Reader_countUnit_26 : decode (zb m_Reader_countUnit) 26 = .ok (.getfield 126, 3) := zdal_p dlA_Reader_countUnit_116 (i := 14) rfl
theorem d_Reader_countUnit_29 : decode (zb m_Reader_countUnit) 29 = .ok (.iconst 1, 1) := zdal_p dlA_Reader_countUnit_116 (i := 15) rfl
theorem d_Reader_countUnit_30 : decode (zb m_Reader_countUnit) 30 = .ok (.iadd, 1) := zdal_p dlA_Reader_countUnit_116 (i := 16) rfl
theorem d_Reader_countUnit_31 : decode (zb m_Reader_countUnit) 31 = .ok (.putfield 126, 3) := zdal_p dlA_Reader_countUnit_116 (i := 17) rfl
theorem d_Reader_countUnit_34 : decode (zb m_Reader_countUnit) 34 = .ok (.iconst 1, 1) := zdal_p dlA_Reader_countUnit_116 (i := 18) rfl
theorem d_Reader_countUnit_35 : decode (zb m_Reader_countUnit) 35 = .ok (.ireturn, 1) := zdal_p dlA_Reader_countUnit_116 (i := 19) rfl
theorem dlA_Calc_open_117 : zdal (zb m_Calc_open) [(0, (.aload_n 0, 1)), (1, (.iload_n 1, 1)), (2, (.ifCond .eq 8, 3)), (5, (.bipush 40, 2)), (7, (.goto 5, 3)), (10, (.bipush 126, 2)), (12, (.invokevirtual 55, 3)), (15, (.aload_n 0, 1)), (16, (.dup, 1)), (17, (.getfield 31, 3)), (20, (.iconst 1, 1)), (21, (.iadd, 1)), (22, (.putfield 31, 3)), (25, (.aload_n 0, 1)), (26, (.dup, 1)), (27, (.getfield 34, 3)), (30, (.iload_n 1, 1)), (31, (.ifCond .eq 7, 3)), (34, (.iconst 1, 1)), (35, (.goto 4, 3)), (38, (.iconst 0, 1)), (39, (.iadd, 1)), (40, (.putfield 34, 3)), (43, (.return_, 1))] = true := zDs 0 (by decide +kernel)
theorem d_Calc_open_0 : decode (zb m_Calc_open) 0 = .ok (.aload_n 0, 1) := zdal_p dlA_Calc_open_117 (i := 0) rfl
theorem d_Calc_open_1 : decode (zb m_Calc_open) 1 = .ok (.iload_n 1, 1) := zdal_p dlA_Calc_open_117 (i := 1) rfl
theorem d_Calc_open_2 : decode (zb m_Calc_open) 2 = .ok (.ifCond .eq 8, 3) := zdal_p dlA_Calc_open_117 (i := 2) rfl
theorem d_Calc_open_5 : decode (zb m_Calc_open) 5 = .ok (.bipush 40, 2) := zdal_p dlA_Calc_open_117 (i := 3) rfl
theorem d_Calc_open_7 : decode (zb m_Calc_open) 7 = .ok (.goto 5, 3) := zdal_p dlA_Calc_open_117 (i := 4) rfl
theorem d_Calc_open_10 : decode (zb m_Calc_open) 10 = .ok (.bipush 126, 2) := zdal_p dlA_Calc_open_117 (i := 5) rfl
theorem d_Calc_open_12 : decode (zb m_Calc_open) 12 = .ok (.invokevirtual 55, 3) := zdal_p dlA_Calc_open_117 (i := 6) rfl
theorem d_Calc_open_15 : decode (zb m_Calc_open) 15 = .ok (.aload_n 0, 1) := zdal_p dlA_Calc_open_117 (i := 7) rfl
theorem d_Calc_open_16 : decode (zb m_Calc_open) 16 = .ok (.dup, 1) := zdal_p dlA_Calc_open_117 (i := 8) rfl
theorem d_Calc_open_17 : decode (zb m_Calc_open) 17 = .ok (.getfield 31, 3) := zdal_p dlA_Calc_open_117 (i := 9) rfl
theorem d_Calc_open_20 : decode (zb m_Calc_open) 20 = .ok (.iconst 1, 1) := zdal_p dlA_Calc_open_117 (i := 10) rfl
theorem d_Calc_open_21 : decode (zb m_Calc_open) 21 = .ok (.iadd, 1) := zdal_p dlA_Calc_open_117 (i := 11) rfl
theorem d_Calc_open_22 : decode (zb m_Calc_open) 22 = .ok (.putfield 31, 3) := zdal_p dlA_Calc_open_117 (i := 12) rfl
theorem d_Calc_open_25 : decode (zb m_Calc_open) 25 = .ok (.aload_n 0, 1) := zdal_p dlA_Calc_open_117 (i := 13) rfl
theorem d_Calc_open_26 : decode (zb m_Calc_open) 26 = .ok (.dup, 1) := zdal_p dlA_Calc_open_117 (i := 14) rfl
theorem d_Calc_open_27 : decode (zb m_Calc_open) 27 = .ok (.getfield 34, 3) := zdal_p dlA_Calc_open_117 (i := 15) rfl
theorem d_Calc_open_30 : decode (zb m_Calc_open) 30 = .ok (.iload_n 1, 1) := zdal_p dlA_Calc_open_117 (i := 16) rfl
theorem d_Calc_open_31 : decode (zb m_Calc_open) 31 = .ok (.ifCond .eq 7, 3) := zdal_p dlA_Calc_open_117 (i := 17) rfl
theorem d_Calc_open_34 : decode (zb m_Calc_open) 34 = .ok (.iconst 1, 1) := zdal_p dlA_Calc_open_117 (i := 18) rfl
theorem d_Calc_open_35 : decode (zb m_Calc_open) 35 = .ok (.goto 4, 3) := zdal_p dlA_Calc_open_117 (i := 19) rfl
theorem d_Calc_open_38 : decode (zb m_Calc_open) 38 = .ok (.iconst 0, 1) := zdal_p dlA_Calc_open_117 (i := 20) rfl
theorem d_Calc_open_39 : decode (zb m_Calc_open) 39 = .ok (.iadd, 1) := zdal_p dlA_Calc_open_117 (i := 21) rfl
theorem d_Calc_open_40 : decode (zb m_Calc_open) 40 = .ok (.putfield 34, 3) := zdal_p dlA_Calc_open_117 (i := 22) rfl
theorem d_Calc_open_43 : decode (zb m_Calc_open) 43 = .ok (.return_, 1) := zdal_p dlA_Calc_open_117 (i := 23) rfl
theorem dlA_Calc_pushSign_118 : zdal (zb m_Calc_pushSign) [(0, (.aload_n 0, 1)), (1, (.getfield 24, 3)), (4, (.bipush 24, 2)), (6, (.if_icmp .ge 25, 3)), (9, (.aload_n 0, 1)), (10, (.getfield 14, 3)), (13, (.aload_n 0, 1)), (14, (.getfield 24, 3)), (17, (.iload_n 1, 1)), (18, (.invokevirtual 47, 3)), (21, (.aload_n 0, 1)), (22, (.dup, 1)), (23, (.getfield 24, 3)), (26, (.iconst 1, 1)), (27, (.iadd, 1)), (28, (.putfield 24, 3)), (31, (.return_, 1))] = true := zDs 0 (by decide +kernel)
theorem d_Calc_pushSign_0 : decode (zb m_Calc_pushSign) 0 = .ok (.aload_n 0, 1) := zdal_p dlA_Calc_pushSign_118 (i := 0) rfl
theorem d_Calc_pushSign_1 : decode (zb m_Calc_pushSign) 1 = .ok (.getfield 24, 3) := zdal_p dlA_Calc_pushSign_118 (i := 1) rfl
theorem d_Calc_pushSign_4 : decode (zb m_Calc_pushSign) 4 = .ok (.bipush 24, 2) := zdal_p dlA_Calc_pushSign_118 (i := 2) rfl
theorem d_Calc_pushSign_6 : decode (zb m_Calc_pushSign) 6 = .ok (.if_icmp .ge 25, 3) := zdal_p dlA_Calc_pushSign_118 (i := 3) rfl
theorem d_Calc_pushSign_9 : decode (zb m_Calc_pushSign) 9 = .ok (.aload_n 0, 1) := zdal_p dlA_Calc_pushSign_118 (i := 4) rfl
theorem d_Calc_pushSign_10 : decode (zb m_Calc_pushSign) 10 = .ok (.getfield 14, 3) := zdal_p dlA_Calc_pushSign_118 (i := 5) rfl
theorem d_Calc_pushSign_13 : decode (zb m_Calc_pushSign) 13 = .ok (.aload_n 0, 1) := zdal_p dlA_Calc_pushSign_118 (i := 6) rfl
theorem d_Calc_pushSign_14 : decode (zb m_Calc_pushSign) 14 = .ok (.getfield 24, 3) := zdal_p dlA_Calc_pushSign_118 (i := 7) rfl
theorem d_Calc_pushSign_17 : decode (zb m_Calc_pushSign) 17 = .ok (.iload_n 1, 1) := zdal_p dlA_Calc_pushSign_118 (i := 8) rfl
theorem d_Calc_pushSign_18 : decode (zb m_Calc_pushSign) 18 = .ok (.invokevirtual 47, 3) := zdal_p dlA_Calc_pushSign_118 (i := 9) rfl
theorem d_Calc_pushSign_21 : decode (zb m_Calc_pushSign) 21 = .ok (.aload_n 0, 1) := zdal_p dlA_Calc_pushSign_118 (i := 10) rfl
theorem d_Calc_pushSign_22 : decode (zb m_Calc_pushSign) 22 = .ok (.dup, 1) := zdal_p dlA_Calc_pushSign_118 (i := 11) rfl
theorem d_Calc_pushSign_23 : decode (zb m_Calc_pushSign) 23 = .ok (.getfield 24, 3) := zdal_p dlA_Calc_pushSign_118 (i := 12) rfl
theorem d_Calc_pushSign_26 : decode (zb m_Calc_pushSign) 26 = .ok (.iconst 1, 1) := zdal_p dlA_Calc_pushSign_118 (i := 13) rfl
theorem d_Calc_pushSign_27 : decode (zb m_Calc_pushSign) 27 = .ok (.iadd, 1) := zdal_p dlA_Calc_pushSign_118 (i := 14) rfl
theorem d_Calc_pushSign_28 : decode (zb m_Calc_pushSign) 28 = .ok (.putfield 24, 3) := zdal_p dlA_Calc_pushSign_118 (i := 15) rfl
theorem d_Calc_pushSign_31 : decode (zb m_Calc_pushSign) 31 = .ok (.return_, 1) := zdal_p dlA_Calc_pushSign_118 (i := 16) rfl
theorem dlA_Reader_readOperand_119 : zdal (zb m_Reader_readOperand) [(0, (.aload_n 1, 1)), (1, (.getfield 111, 3)), (4, (.astore_n 2, 1)), (5, (.aload_n 1, 1)), (6, (.getfield 158, 3)), (9, (.getfield 162, 3)), (12, (.iconst 1, 1)), (13, (.isub, 1)), (14, (.istore_n 3, 1)), (15, (.aload_n 0, 1)), (16, (.getfield 15, 3)), (19, (.invokevirtual 53, 3)), (22, (.istore 4, 2)), (24, (.iload 4, 2)), (26, (.ifCond .ne 25, 3)), (29, (.aload_n 0, 1)), (30, (.getfield 15, 3)), (33, (.ldc 167, 2)), (35, (.invokevirtual 49, 3)), (38, (.ifCond .ne 13, 3)), (41, (.aload_n 0, 1)), (42, (.aload_n 1, 1)), (43, (.invokevirtual 169, 3)), (46, (.ifCond .ne 87, 3))] = true := zDs 0 (by decide +kernel)
theorem d_Reader_readOperand_0 : decode (zb m_Reader_readOperand) 0 = .ok (.aload_n 1, 1) := zdal_p dlA_Reader_readOperand_119 (i := 0) rfl
theorem d_Reader_readOperand_1 : decode (zb m_Reader_readOperand) 1 = .ok (.getfield 111, 3) := zdal_p dlA_Reader_readOperand_119 (i := 1) rfl
theorem d_Reader_readOperand_4 : decode (zb m_Reader_readOperand) 4 = .ok (.astore_n 2, 1) := zdal_p dlA_Reader_readOperand_119 (i := 2) rfl
theorem d_Reader_readOperand_5 : decode (zb m_Reader_readOperand) 5 = .ok (.aload_n 1, 1) := zdal_p dlA_Reader_readOperand_119 (i := 3) rfl
theorem d_Reader_readOperand_6 : decode (zb m_Reader_readOperand) 6 = .ok (.getfield 158, 3) := zdal_p dlA_Reader_readOperand_119 (i := 4) rfl
theorem d_Reader_readOperand_9 : decode (zb m_Reader_readOperand) 9 = .ok (.getfield 162, 3) := zdal_p dlA_Reader_readOperand_119 (i := 5) rfl
theorem d_Reader_readOperand_12 : decode (zb m_Reader_readOperand) 12 = .ok (.iconst 1, 1) := zdal_p dlA_Reader_readOperand_119 (i := 6) rfl
theorem d_Reader_readOperand_13 : decode (zb m_Reader_readOperand) 13 = .ok (.isub, 1) := zdal_p dlA_Reader_readOperand_119 (i := 7) rfl
theorem d_Reader_readOperand_14 : decode (zb m_Reader_readOperand) 14 = .ok (.istore_n 3, 1) := zdal_p dlA_Reader_readOperand_119 (i := 8) rfl
theorem d_Reader_readOperand_15 : decode (zb m_Reader_readOperand) 15 = .ok (.aload_n 0, 1) := zdal_p dlA_Reader_readOperand_119 (i := 9) rfl
theorem d_Reader_readOperand_16 : decode (zb m_Reader_readOperand) 16 = .ok (.getfield 15, 3) := zdal_p dlA_Reader_readOperand_119 (i := 10) rfl
theorem d_Reader_readOperand_19 : decode (zb m_Reader_readOperand) 19 = .ok (.invokevirtual 53, 3) := zdal_p dlA_Reader_readOperand_119 (i := 11) rfl
theorem d_Reader_readOperand_22 : decode (zb m_Reader_readOperand) 22 = .ok (.istore 4, 2) := zdal_p dlA_Reader_readOperand_119 (i := 12) rfl
theorem d_Reader_readOperand_24 : decode (zb m_Reader_readOperand) 24 = .ok (.iload 4, 2) := zdal_p dlA_Reader_readOperand_119 (i := 13) rfl
theorem d_Reader_readOperand_26 : decode (zb m_Reader_readOperand) 26 = .ok (.ifCond .ne 25, 3) := zdal_p dlA_Reader_readOperand_119 (i := 14) rfl
theorem d_Reader_readOperand_29 : decode (zb m_Reader_readOperand) 29 = .ok (.aload_n 0, 1) := zdal_p dlA_Reader_readOperand_119 (i := 15) rfl
theorem d_Reader_readOperand_30 : decode (zb m_Reader_readOperand) 30 = .ok (.getfield 15, 3) := zdal_p dlA_Reader_readOperand_119 (i := 16) rfl
theorem d_Reader_readOperand_33 : decode (zb m_Reader_readOperand) 33 = .ok (.ldc 167, 2) := zdal_p dlA_Reader_readOperand_119 (i := 17) rfl
theorem d_Reader_readOperand_35 : decode (zb m_Reader_readOperand) 35 = .ok (.invokevirtual 49, 3) := zdal_p dlA_Reader_readOperand_119 (i := 18) rfl
theorem d_Reader_readOperand_38 : decode (zb m_Reader_readOperand) 38 = .ok (.ifCond .ne 13, 3) := zdal_p dlA_Reader_readOperand_119 (i := 19) rfl
theorem d_Reader_readOperand_41 : decode (zb m_Reader_readOperand) 41 = .ok (.aload_n 0, 1) := zdal_p dlA_Reader_readOperand_119 (i := 20) rfl
theorem d_Reader_readOperand_42 : decode (zb m_Reader_readOperand) 42 = .ok (.aload_n 1, 1) := zdal_p dlA_Reader_readOperand_119 (i := 21) rfl
theorem d_Reader_readOperand_43 : decode (zb m_Reader_readOperand) 43 = .ok (.invokevirtual 169, 3) := zdal_p dlA_Reader_readOperand_119 (i := 22) rfl
theorem d_Reader_readOperand_46 : decode (zb m_Reader_readOperand) 46 = .ok (.ifCond .ne 87, 3) := zdal_p dlA_Reader_readOperand_119 (i := 23) rfl
theorem dlA_Reader_readOperand_120 : zdal (zb m_Reader_readOperand) [(49, (.iconst 0, 1)), (50, (.ireturn, 1)), (51, (.aload_n 0, 1)), (52, (.aload_n 2, 1)), (53, (.invokevirtual 152, 3)), (56, (.ifCond .ne 5, 3)), (59, (.iconst 0, 1)), (60, (.ireturn, 1)), (61, (.iload 4, 2)), (63, (.ifCond .eq 18, 3)), (66, (.aload_n 2, 1)), (67, (.iload_n 3, 1)), (68, (.aload_n 0, 1)), (69, (.getfield 15, 3)), (72, (.getfield 57, 3)), (75, (.invokevirtual 172, 3)), (78, (.goto 55, 3)), (81, (.aload_n 0, 1)), (82, (.getfield 15, 3)), (85, (.invokevirtual 44, 3)), (88, (.aload_n 0, 1)), (89, (.getfield 15, 3)), (92, (.invokevirtual 53, 3)), (95, (.ifCond .ne 9, 3))] = true := zDs 49 (by decide +kernel)
theorem d_Reader_readOperand_49 : decode (zb m_Reader_readOperand) 49 = .ok (.iconst 0, 1) := zdal_p dlA_Reader_readOperand_120 (i := 0) rfl
theorem d_Reader_readOperand_50 : decode (zb m_Reader_readOperand) 50 = .ok (.ireturn, 1) := zdal_p dlA_Reader_readOperand_120 (i := 1) rfl
theorem d_Reader_readOperand_51 : decode (zb m_Reader_readOperand) 51 = .ok (.aload_n 0, 1) := zdal_p dlA_Reader_readOperand_120 (i := 2) rfl
theorem d_Reader_readOperand_52 : decode (zb m_Reader_readOperand) 52 = .ok (.aload_n 2, 1) := zdal_p dlA_Reader_readOperand_120 (i := 3) rfl
theorem d_Reader_readOperand_53 : decode (zb m_Reader_readOperand) 53 = .ok (.invokevirtual 152, 3) := zdal_p dlA_Reader_readOperand_120 (i := 4) rfl
theorem d_Reader_readOperand_56 : decode (zb m_Reader_readOperand) 56 = .ok (.ifCond .ne 5, 3) := zdal_p dlA_Reader_readOperand_120 (i := 5) rfl
theorem d_Reader_readOperand_59 : decode (zb m_Reader_readOperand) 59 = .ok (.iconst 0, 1) := zdal_p dlA_Reader_readOperand_120 (i := 6) rfl
theorem d_Reader_readOperand_60 : decode (zb m_Reader_readOperand) 60 = .ok (.ireturn, 1) := zdal_p dlA_Reader_readOperand_120 (i := 7) rfl
theorem d_Reader_readOperand_61 : decode (zb m_Reader_readOperand) 61 = .ok (.iload 4, 2) := zdal_p dlA_Reader_readOperand_120 (i := 8) rfl
theorem d_Reader_readOperand_63 : decode (zb m_Reader_readOperand) 63 = .ok (.ifCond .eq 18, 3) := zdal_p dlA_Reader_readOperand_120 (i := 9) rfl
theorem d_Reader_readOperand_66 : decode (zb m_Reader_readOperand) 66 = .ok (.aload_n 2, 1) := zdal_p dlA_Reader_readOperand_120 (i := 10) rfl
theorem d_Reader_readOperand_67 : decode (zb m_Reader_readOperand) 67 = .ok (.iload_n 3, 1) := zdal_p dlA_Reader_readOperand_120 (i := 11) rfl
theorem d_Reader_readOperand_68 : decode (zb m_Reader_readOperand) 68 = .ok (.aload_n 0, 1) := zdal_p dlA_Reader_readOperand_120 (i := 12) rfl
theorem d_Reader_readOperand_69 : decode (zb m_Reader_readOperand) 69 = .ok (.getfield 15, 3) := zdal_p dlA_Reader_readOperand_120 (i := 13) rfl
theorem d_Reader_readOperand_72 : decode (zb m_Reader_readOperand) 72 = .ok (.getfield 57, 3) := zdal_p dlA_Reader_readOperand_120 (i := 14) rfl
theorem d_Reader_readOperand_75 : decode (zb m_Reader_readOperand) 75 = .ok (.invokevirtual 172, 3) := zdal_p dlA_Reader_readOperand_120 (i := 15) rfl
theorem d_Reader_readOperand_78 : decode (zb m_Reader_readOperand) 78 = .ok (.goto 55, 3) := zdal_p dlA_Reader_readOperand_120 (i := 16) rfl
theorem d_Reader_readOperand_81 : decode (zb m_Reader_readOperand) 81 = .ok (.aload_n 0, 1) := zdal_p dlA_Reader_readOperand_120 (i := 17) rfl
theorem d_Reader_readOperand_82 : decode (zb m_Reader_readOperand) 82 = .ok (.getfield 15, 3) := zdal_p dlA_Reader_readOperand_120 (i := 18) rfl
theorem d_Reader_readOperand_85 : decode (zb m_Reader_readOperand) 85 = .ok (.invokevirtual 44, 3) := zdal_p dlA_Reader_readOperand_120 (i := 19) rfl
theorem d_Reader_readOperand_88 : decode (zb m_Reader_readOperand) 88 = .ok (.aload_n 0, 1) := zdal_p dlA_Reader_readOperand_120 (i := 20) rfl
theorem d_Reader_readOperand_89 : decode (zb m_Reader_readOperand) 89 = .ok (.getfield 15, 3) := zdal_p dlA_Reader_readOperand_120 (i := 21) rfl
theorem d_Reader_readOperand_92 : decode (zb m_Reader_readOperand) 92 = .ok (.invokevirtual 53, 3) := zdal_p dlA_Reader_readOperand_120 (i := 22) rfl
theorem d_Reader_readOperand_95 : decode (zb m_Reader_readOperand) 95 = .ok (.ifCond .ne 9, 3) := zdal_p dlA_Reader_readOperand_120 (i := 23) rfl
theorem dlA_Reader_readOperand_121 : zdal (zb m_Reader_readOperand) [(98, (.aload_n 0, 1)), (99, (.iconst 2, 1)), (100, (.invokevirtual 41, 3)), (103, (.ireturn, 1)), (104, (.aload_n 0, 1)), (105, (.getfield 15, 3)), (108, (.getfield 57, 3)), (111, (.iload_n 3, 1)), (112, (.if_icmp .le 9, 3)), (115, (.aload_n 0, 1)), (116, (.iconst 4, 1)), (117, (.invokevirtual 41, 3)), (120, (.ireturn, 1)), (121, (.aload_n 2, 1)), (122, (.aload_n 0, 1)), (123, (.getfield 15, 3)), (126, (.getfield 57, 3)), (129, (.iconst 1, 1)), (130, (.invokevirtual 172, 3)), (133, (.aload_n 0, 1)), (134, (.getfield 15, 3)), (137, (.invokevirtual 44, 3)), (140, (.iconst 1, 1)), (141, (.ireturn, 1))] = true := zDs 98 (by decide +kernel)
theorem d_Reader_readOperand_98 : decode (zb m_Reader_readOperand) 98 = .ok (.aload_n 0, 1) := zdal_p dlA_Reader_readOperand_121 (i := 0) rfl
theorem d_Reader_readOperand_99 : decode (zb m_Reader_readOperand) 99 = .ok (.iconst 2, 1) := zdal_p dlA_Reader_readOperand_121 (i := 1) rfl
theorem d_Reader_readOperand_100 : decode (zb m_Reader_readOperand) 100 = .ok (.invokevirtual 41, 3) := zdal_p dlA_Reader_readOperand_121 (i := 2) rfl
theorem d_Reader_readOperand_103 : decode (zb m_Reader_readOperand) 103 = .ok (.ireturn, 1) := zdal_p dlA_Reader_readOperand_121 (i := 3) rfl
theorem d_Reader_readOperand_104 : decode (zb m_Reader_readOperand) 104 = .ok (.aload_n 0, 1) := zdal_p dlA_Reader_readOperand_121 (i := 4) rfl
theorem d_Reader_readOperand_105 : decode (zb m_Reader_readOperand) 105 = .ok (.getfield 15, 3) := zdal_p dlA_Reader_readOperand_121 (i := 5) rfl
theorem d_Reader_readOperand_108 : decode (zb m_Reader_readOperand) 108 = .ok (.getfield 57, 3) := zdal_p dlA_Reader_readOperand_121 (i := 6) rfl
theorem d_Reader_readOperand_111 : decode (zb m_Reader_readOperand) 111 = .ok (.iload_n 3, 1) := zdal_p dlA_Reader_readOperand_121 (i := 7) rfl
theorem d_Reader_readOperand_112 : decode (zb m_Reader_readOperand) 112 = .ok (.if_icmp .le 9, 3) := zdal_p dlA_Reader_readOperand_121 (i := 8) rfl
theorem d_Reader_readOperand_115 : decode (zb m_Reader_readOperand) 115 = .ok (.aload_n 0, 1) := zdal_p dlA_Reader_readOperand_121 (i := 9) rfl
theorem d_Reader_readOperand_116 : decode (zb m_Reader_readOperand) 116 = .ok (.iconst 4, 1) := zdal_p dlA_Reader_readOperand_121 (i := 10) rfl
theorem d_Reader_readOperand_117 : decode (zb m_Reader_readOperand) 117 = .ok (.invokevirtual 41, 3) := zdal_p dlA_Reader_readOperand_121 (i := 11) rfl
theorem d_Reader_readOperand_120 : decode (zb m_Reader_readOperand) 120 = .ok (.ireturn, 1) := zdal_p dlA_Reader_readOperand_121 (i := 12) rfl
theorem d_Reader_readOperand_121 : decode (zb m_Reader_readOperand) 121 = .ok (.aload_n 2, 1) := zdal_p dlA_Reader_readOperand_121 (i := 13) rfl
theorem d_Reader_readOperand_122 : decode (zb m_Reader_readOperand) 122 = .ok (.aload_n 0, 1) := zdal_p dlA_Reader_readOperand_121 (i := 14) rfl
theorem d_Reader_readOperand_123 : decode (zb m_Reader_readOperand) 123 = .ok (.getfield 15, 3) := zdal_p dlA_Reader_readOperand_121 (i := 15) rfl
theorem d_Reader_readOperand_126 : decode (zb m_Reader_readOperand) 126 = .ok (.getfield 57, 3) := zdal_p dlA_Reader_readOperand_121 (i := 16) rfl
theorem d_Reader_readOperand_129 : decode (zb m_Reader_readOperand) 129 = .ok (.iconst 1, 1) := zdal_p dlA_Reader_readOperand_121 (i := 17) rfl
theorem d_Reader_readOperand_130 : decode (zb m_Reader_readOperand) 130 = .ok (.invokevirtual 172, 3) := zdal_p dlA_Reader_readOperand_121 (i := 18) rfl
theorem d_Reader_readOperand_133 : decode (zb m_Reader_readOperand) 133 = .ok (.aload_n 0, 1) := zdal_p dlA_Reader_readOperand_121 (i := 19) rfl
theorem d_Reader_readOperand_134 : decode (zb m_Reader_readOperand) 134 = .ok (.getfield 15, 3) := zdal_p dlA_Reader_readOperand_121 (i := 20) rfl
theorem d_Reader_readOperand_137 : decode (zb m_Reader_readOperand) 137 = .ok (.invokevirtual 44, 3) := zdal_p dlA_Reader_readOperand_121 (i := 21) rfl
theorem d_Reader_readOperand_140 : decode (zb m_Reader_readOperand) 140 = .ok (.iconst 1, 1) := zdal_p dlA_Reader_readOperand_121 (i := 22) rfl
theorem d_Reader_readOperand_141 : decode (zb m_Reader_readOperand) 141 = .ok (.ireturn, 1) := zdal_p dlA_Reader_readOperand_121 (i := 23) rfl
theorem dlA_Reader_readNamed_122 : zdal (zb m_Reader_readNamed) [(0, (.aload_n 0, 1)), (1, (.getfield 15, 3)), (4, (.invokevirtual 101, 3)), (7, (.ifCond .ne 9, 3)), (10, (.aload_n 0, 1)), (11, (.iconst 2, 1)), (12, (.invokevirtual 41, 3)), (15, (.ireturn, 1)), (16, (.aload_n 1, 1)), (17, (.aload_n 0, 1)), (18, (.getfield 15, 3)), (21, (.getfield 57, 3)), (24, (.invokevirtual 104, 3)), (27, (.istore_n 2, 1)), (28, (.iload_n 2, 1)), (29, (.iconst (-1), 1)), (30, (.if_icmp .ne 9, 3)), (33, (.aload_n 0, 1)), (34, (.iconst 3, 1)), (35, (.invokevirtual 41, 3)), (38, (.ireturn, 1)), (39, (.aload_n 0, 1)), (40, (.aload_n 1, 1)), (41, (.getfield 111, 3))] = true := zDs 0 (by decide +kernel)
theorem d_Reader_readNamed_0 : decode (zb m_Reader_readNamed) 0 = .ok (.aload_n 0, 1) := zdal_p dlA_Reader_readNamed_122 (i := 0) rfl
theorem d_Reader_readNamed_1 : decode (zb m_Reader_readNamed) 1 = .ok (.getfield 15, 3) := zdal_p dlA_Reader_readNamed_122 (i := 1) rfl
theorem d_Reader_readNamed_4 : decode (zb m_Reader_readNamed) 4 = .ok (.invokevirtual 101, 3) := zdal_p dlA_Reader_readNamed_122 (i := 2) rfl
theorem d_Reader_readNamed_7 : decode (zb m_Reader_readNamed) 7 = .ok (.ifCond .ne 9, 3) := zdal_p dlA_Reader_readNamed_122 (i := 3) rfl
theorem d_Reader_readNamed_10 : decode (zb m_Reader_readNamed) 10 = .ok (.aload_n 0, 1) := zdal_p dlA_Reader_readNamed_122 (i := 4) rfl
theorem d_Reader_readNamed_11 : decode (zb m_Reader_readNamed) 11 = .ok (.iconst 2, 1) := zdal_p dlA_Reader_readNamed_122 (i := 5) rfl
theorem d_Reader_readNamed_12 : decode (zb m_Reader_readNamed) 12 = .ok (.invokevirtual 41, 3) := zdal_p dlA_Reader_readNamed_122 (i := 6) rfl
theorem d_Reader_readNamed_15 : decode (zb m_Reader_readNamed) 15 = .ok (.ireturn, 1) := zdal_p dlA_Reader_readNamed_122 (i := 7) rfl
theorem d_Reader_readNamed_16 : decode (zb m_Reader_readNamed) 16 = .ok (.aload_n 1, 1) := zdal_p dlA_Reader_readNamed_122 (i := 8) rfl
theorem d_Reader_readNamed_17 : decode (zb m_Reader_readNamed) 17 = .ok (.aload_n 0, 1) := zdal_p dlA_Reader_readNamed_122 (i := 9) rfl
theorem d_Reader_readNamed_18 : decode (zb m_Reader_readNamed) 18 = .ok (.getfield 15, 3) := zdal_p dlA_Reader_readNamed_122 (i := 10) rfl
theorem d_Reader_readNamed_21 : decode (zb m_Reader_readNamed) 21 = .ok (.getfield 57, 3) := zdal_p dlA_Reader_readNamed_122 (i := 11) rfl
theorem d_Reader_readNamed_24 : decode (zb m_Reader_readNamed) 24 = .ok (.invokevirtual 104, 3) := zdal_p dlA_Reader_readNamed_122 (i := 12) rfl
theorem d_Reader_readNamed_27 : decode (zb m_Reader_readNamed) 27 = .ok (.istore_n 2, 1) := zdal_p dlA_Reader_readNamed_122 (i := 13) rfl
theorem d_Reader_readNamed_28 : decode (zb m_Reader_readNamed) 28 = .ok (.iload_n 2, 1) := zdal_p dlA_Reader_readNamed_122 (i := 14) rfl
theorem d_Reader_readNamed_29 : decode (zb m_Reader_readNamed) 29 = .ok (.iconst (-1), 1) := zdal_p dlA_Reader_readNamed_122 (i := 15) rfl
theorem d_Reader_readNamed_30 : decode (zb m_Reader_readNamed) 30 = .ok (.if_icmp .ne 9, 3) := zdal_p dlA_Reader_readNamed_122 (i := 16) rfl
theorem d_Reader_readNamed_33 : decode (zb m_Reader_readNamed) 33 = .ok (.aload_n 0, 1) := zdal_p dlA_Reader_readNamed_122 (i := 17) rfl
theorem d_Reader_readNamed_34 : decode (zb m_Reader_readNamed) 34 = .ok (.iconst 3, 1) := zdal_p dlA_Reader_readNamed_122 (i := 18) rfl
theorem d_Reader_readNamed_35 : decode (zb m_Reader_readNamed) 35 = .ok (.invokevirtual 41, 3) := zdal_p dlA_Reader_readNamed_122 (i := 19) rfl
theorem d_Reader_readNamed_38 : decode (zb m_Reader_readNamed) 38 = .ok (.ireturn, 1) := zdal_p dlA_Reader_readNamed_122 (i := 20) rfl
theorem d_Reader_readNamed_39 : decode (zb m_Reader_readNamed) 39 = .ok (.aload_n 0, 1) := zdal_p dlA_Reader_readNamed_122 (i := 21) rfl
theorem d_Reader_readNamed_40 : decode (zb m_Reader_readNamed) 40 = .ok (.aload_n 1, 1) := zdal_p dlA_Reader_readNamed_122 (i := 22) rfl
theorem d_Reader_readNamed_41 : decode (zb m_Reader_readNamed) 41 = .ok (.getfield 111, 3) := zdal_p dlA_Reader_readNamed_122 (i := 23) rfl
theorem dlA_Reader_readNamed_123 : zdal (zb m_Reader_readNamed) [(44, (.invokevirtual 152, 3)), (47, (.ifCond .ne 5, 3)), (50, (.iconst 0, 1)), (51, (.ireturn, 1)), (52, (.aload_n 1, 1)), (53, (.getfield 111, 3)), (56, (.iload_n 2, 1)), (57, (.invokevirtual 176, 3)), (60, (.iconst 1, 1)), (61, (.ireturn, 1))] = true := zDs 44 (by decide +kernel)
theorem d_Reader_readNamed_44 : decode (zb m_Reader_readNamed) 44 = .ok (.invokevirtual 152, 3) := zdal_p dlA_Reader_readNamed_123 (i := 0) rfl
theorem d_Reader_readNamed_47 : decode (zb m_Reader_readNamed) 47 = .ok (.ifCond .ne 5, 3) := zdal_p dlA_Reader_readNamed_123 (i := 1) rfl
theorem d_Reader_readNamed_50 : decode (zb m_Reader_readNamed) 50 = .ok (.iconst 0, 1) := zdal_p dlA_Reader_readNamed_123 (i := 2) rfl
theorem d_Reader_readNamed_51 : decode (zb m_Reader_readNamed) 51 = .ok (.ireturn, 1) := zdal_p dlA_Reader_readNamed_123 (i := 3) rfl
theorem d_Reader_readNamed_52 : decode (zb m_Reader_readNamed) 52 = .ok (.aload_n 1, 1) := zdal_p dlA_Reader_readNamed_123 (i := 4) rfl
theorem d_Reader_readNamed_53 : decode (zb m_Reader_readNamed) 53 = .ok (.getfield 111, 3) := zdal_p dlA_Reader_readNamed_123 (i := 5) rfl
theorem d_Reader_readNamed_56 : decode (zb m_Reader_readNamed) 56 = .ok (.iload_n 2, 1) := zdal_p dlA_Reader_readNamed_123 (i := 6) rfl
theorem d_Reader_readNamed_57 : decode (zb m_Reader_readNamed) 57 = .ok (.invokevirtual 176, 3) := zdal_p dlA_Reader_readNamed_123 (i := 7) rfl
theorem d_Reader_readNamed_60 : decode (zb m_Reader_readNamed) 60 = .ok (.iconst 1, 1) := zdal_p dlA_Reader_readNamed_123 (i := 8) rfl
theorem d_Reader_readNamed_61 : decode (zb m_Reader_readNamed) 61 = .ok (.ireturn, 1) := zdal_p dlA_Reader_readNamed_123 (i := 9) rfl
theorem dlA_Calc_pushNamed_124 : zdal (zb m_Calc_pushNamed) [(0, (.aload_n 0, 1)), (1, (.getfield 20, 3)), (4, (.iconst 1, 1)), (5, (.iload_n 1, 1)), (6, (.iadd, 1)), (7, (.aload_n 0, 1)), (8, (.invokevirtual 58, 3)), (11, (.invokevirtual 65, 3)), (14, (.return_, 1))] = true := zDs 0 (by decide +kernel)
theorem d_Calc_pushNamed_0 : decode (zb m_Calc_pushNamed) 0 = .ok (.aload_n 0, 1) := zdal_p dlA_Calc_pushNamed_124 (i := 0) rfl
theorem d_Calc_pushNamed_1 : decode (zb m_Calc_pushNamed) 1 = .ok (.getfield 20, 3) := zdal_p dlA_Calc_pushNamed_124 (i := 1) rfl
theorem d_Calc_pushNamed_4 : decode (zb m_Calc_pushNamed) 4 = .ok (.iconst 1, 1) := zdal_p dlA_Calc_pushNamed_124 (i := 2) rfl
theorem d_Calc_pushNamed_5 : decode (zb m_Calc_pushNamed) 5 = .ok (.iload_n 1, 1) := zdal_p dlA_Calc_pushNamed_124 (i := 3) rfl
theorem d_Calc_pushNamed_6 : decode (zb m_Calc_pushNamed) 6 = .ok (.iadd, 1) := zdal_p dlA_Calc_pushNamed_124 (i := 4) rfl
theorem d_Calc_pushNamed_7 : decode (zb m_Calc_pushNamed) 7 = .ok (.aload_n 0, 1) := zdal_p dlA_Calc_pushNamed_124 (i := 5) rfl
theorem d_Calc_pushNamed_8 : decode (zb m_Calc_pushNamed) 8 = .ok (.invokevirtual 58, 3) := zdal_p dlA_Calc_pushNamed_124 (i := 6) rfl
theorem d_Calc_pushNamed_11 : decode (zb m_Calc_pushNamed) 11 = .ok (.invokevirtual 65, 3) := zdal_p dlA_Calc_pushNamed_124 (i := 7) rfl
theorem d_Calc_pushNamed_14 : decode (zb m_Calc_pushNamed) 14 = .ok (.return_, 1) := zdal_p dlA_Calc_pushNamed_124 (i := 8) rfl
theorem dlA_Calc_nextShelf_125 : zdal (zb m_Calc_nextShelf) [(0, (.aload_n 0, 1)), (1, (.getfield 28, 3)), (4, (.bipush 18, 2)), (6, (.if_icmp .ge 13, 3)), (9, (.aload_n 0, 1)), (10, (.dup, 1)), (11, (.getfield 28, 3)), (14, (.iconst 1, 1)), (15, (.iadd, 1)), (16, (.putfield 28, 3)), (19, (.aload_n 0, 1)), (20, (.invokevirtual 43, 3)), (23, (.ireturn, 1))] = true := zDs 0 (by decide +kernel)
theorem d_Calc_nextShelf_0 : decode (zb m_Calc_nextShelf) 0 = .ok (.aload_n 0, 1) := zdal_p dlA_Calc_nextShelf_125 (i := 0) rfl
theorem d_Calc_nextShelf_1 : decode (zb m_Calc_nextShelf) 1 = .ok (.getfield 28, 3) := zdal_p dlA_Calc_nextShelf_125 (i := 1) rfl
theorem d_Calc_nextShelf_4 : decode (zb m_Calc_nextShelf) 4 = .ok (.bipush 18, 2) := zdal_p dlA_Calc_nextShelf_125 (i := 2) rfl
theorem d_Calc_nextShelf_6 : decode (zb m_Calc_nextShelf) 6 = .ok (.if_icmp .ge 13, 3) := zdal_p dlA_Calc_nextShelf_125 (i := 3) rfl
theorem d_Calc_nextShelf_9 : decode (zb m_Calc_nextShelf) 9 = .ok (.aload_n 0, 1) := zdal_p dlA_Calc_nextShelf_125 (i := 4) rfl
theorem d_Calc_nextShelf_10 : decode (zb m_Calc_nextShelf) 10 = .ok (.dup, 1) := zdal_p dlA_Calc_nextShelf_125 (i := 5) rfl
theorem d_Calc_nextShelf_11 : decode (zb m_Calc_nextShelf) 11 = .ok (.getfield 28, 3) := zdal_p dlA_Calc_nextShelf_125 (i := 6) rfl
theorem d_Calc_nextShelf_14 : decode (zb m_Calc_nextShelf) 14 = .ok (.iconst 1, 1) := zdal_p dlA_Calc_nextShelf_125 (i := 7) rfl
theorem d_Calc_nextShelf_15 : decode (zb m_Calc_nextShelf) 15 = .ok (.iadd, 1) := zdal_p dlA_Calc_nextShelf_125 (i := 8) rfl
theorem d_Calc_nextShelf_16 : decode (zb m_Calc_nextShelf) 16 = .ok (.putfield 28, 3) := zdal_p dlA_Calc_nextShelf_125 (i := 9) rfl
theorem d_Calc_nextShelf_19 : decode (zb m_Calc_nextShelf) 19 = .ok (.aload_n 0, 1) := zdal_p dlA_Calc_nextShelf_125 (i := 10) rfl
theorem d_Calc_nextShelf_20 : decode (zb m_Calc_nextShelf) 20 = .ok (.invokevirtual 43, 3) := zdal_p dlA_Calc_nextShelf_125 (i := 11) rfl
theorem d_Calc_nextShelf_23 : decode (zb m_Calc_nextShelf) 23 = .ok (.ireturn, 1) := zdal_p dlA_Calc_nextShelf_125 (i := 12) rfl
theorem dlA_Calc_topShelf_126 : zdal (zb m_Calc_topShelf) [(0, (.bipush 21, 2)), (2, (.aload_n 0, 1)), (3, (.getfield 28, 3)), (6, (.iadd, 1)), (7, (.iconst 1, 1)), (8, (.isub, 1)), (9, (.ireturn, 1))] = true := zDs 0 (by decide +kernel)
theorem d_Calc_topShelf_0 : decode (zb m_Calc_topShelf) 0 = .ok (.bipush 21, 2) := zdal_p dlA_Calc_topShelf_126 (i := 0) rfl
theorem d_Calc_topShelf_2 : decode (zb m_Calc_topShelf) 2 = .ok (.aload_n 0, 1) := zdal_p dlA_Calc_topShelf_126 (i := 1) rfl
theorem d_Calc_topShelf_3 : decode (zb m_Calc_topShelf) 3 = .ok (.getfield 28, 3) := zdal_p dlA_Calc_topShelf_126 (i := 2) rfl
theorem d_Calc_topShelf_6 : decode (zb m_Calc_topShelf) 6 = .ok (.iadd, 1) := zdal_p dlA_Calc_topShelf_126 (i := 3) rfl
theorem d_Calc_topShelf_7 : decode (zb m_Calc_topShelf) 7 = .ok (.iconst 1, 1) := zdal_p dlA_Calc_topShelf_126 (i := 4) rfl
theorem d_Calc_topShelf_8 : decode (zb m_Calc_topShelf) 8 = .ok (.isub, 1) := zdal_p dlA_Calc_topShelf_126 (i := 5) rfl
theorem d_Calc_topShelf_9 : decode (zb m_Calc_topShelf) 9 = .ok (.ireturn, 1) := zdal_p dlA_Calc_topShelf_126 (i := 6) rfl
theorem dlA_Sums_copy_127 : zdal (zb m_Sums_copy) [(0, (.iconst 0, 1)), (1, (.istore_n 3, 1)), (2, (.iload_n 3, 1)), (3, (.aload_n 0, 1)), (4, (.getfield 23, 3)), (7, (.getfield 35, 3)), (10, (.if_icmp .ge 35, 3)), (13, (.aload_n 0, 1)), (14, (.getfield 16, 3)), (17, (.iload_n 2, 1)), (18, (.bipush 27, 2)), (20, (.imul, 1)), (21, (.iload_n 3, 1)), (22, (.iadd, 1)), (23, (.aload_n 0, 1)), (24, (.getfield 16, 3)), (27, (.iload_n 1, 1)), (28, (.bipush 27, 2)), (30, (.imul, 1)), (31, (.iload_n 3, 1)), (32, (.iadd, 1)), (33, (.invokevirtual 27, 3)), (36, (.invokevirtual 31, 3)), (39, (.iinc 3 1, 3))] = true := zDs 0 (by decide +kernel)
theorem d_Sums_copy_0 : decode (zb m_Sums_copy) 0 = .ok (.iconst 0, 1) := zdal_p dlA_Sums_copy_127 (i := 0) rfl
theorem d_Sums_copy_1 : decode (zb m_Sums_copy) 1 = .ok (.istore_n 3, 1) := zdal_p dlA_Sums_copy_127 (i := 1) rfl
theorem d_Sums_copy_2 : decode (zb m_Sums_copy) 2 = .ok (.iload_n 3, 1) := zdal_p dlA_Sums_copy_127 (i := 2) rfl
theorem d_Sums_copy_3 : decode (zb m_Sums_copy) 3 = .ok (.aload_n 0, 1) := zdal_p dlA_Sums_copy_127 (i := 3) rfl
theorem d_Sums_copy_4 : decode (zb m_Sums_copy) 4 = .ok (.getfield 23, 3) := zdal_p dlA_Sums_copy_127 (i := 4) rfl
theorem d_Sums_copy_7 : decode (zb m_Sums_copy) 7 = .ok (.getfield 35, 3) := zdal_p dlA_Sums_copy_127 (i := 5) rfl
theorem d_Sums_copy_10 : decode (zb m_Sums_copy) 10 = .ok (.if_icmp .ge 35, 3) := zdal_p dlA_Sums_copy_127 (i := 6) rfl
theorem d_Sums_copy_13 : decode (zb m_Sums_copy) 13 = .ok (.aload_n 0, 1) := zdal_p dlA_Sums_copy_127 (i := 7) rfl
theorem d_Sums_copy_14 : decode (zb m_Sums_copy) 14 = .ok (.getfield 16, 3) := zdal_p dlA_Sums_copy_127 (i := 8) rfl
theorem d_Sums_copy_17 : decode (zb m_Sums_copy) 17 = .ok (.iload_n 2, 1) := zdal_p dlA_Sums_copy_127 (i := 9) rfl
theorem d_Sums_copy_18 : decode (zb m_Sums_copy) 18 = .ok (.bipush 27, 2) := zdal_p dlA_Sums_copy_127 (i := 10) rfl
theorem d_Sums_copy_20 : decode (zb m_Sums_copy) 20 = .ok (.imul, 1) := zdal_p dlA_Sums_copy_127 (i := 11) rfl
theorem d_Sums_copy_21 : decode (zb m_Sums_copy) 21 = .ok (.iload_n 3, 1) := zdal_p dlA_Sums_copy_127 (i := 12) rfl
theorem d_Sums_copy_22 : decode (zb m_Sums_copy) 22 = .ok (.iadd, 1) := zdal_p dlA_Sums_copy_127 (i := 13) rfl
theorem d_Sums_copy_23 : decode (zb m_Sums_copy) 23 = .ok (.aload_n 0, 1) := zdal_p dlA_Sums_copy_127 (i := 14) rfl
theorem d_Sums_copy_24 : decode (zb m_Sums_copy) 24 = .ok (.getfield 16, 3) := zdal_p dlA_Sums_copy_127 (i := 15) rfl
theorem d_Sums_copy_27 : decode (zb m_Sums_copy) 27 = .ok (.iload_n 1, 1) := zdal_p dlA_Sums_copy_127 (i := 16) rfl
theorem d_Sums_copy_28 : decode (zb m_Sums_copy) 28 = .ok (.bipush 27, 2) := zdal_p dlA_Sums_copy_127 (i := 17) rfl
theorem d_Sums_copy_30 : decode (zb m_Sums_copy) 30 = .ok (.imul, 1) := zdal_p dlA_Sums_copy_127 (i := 18) rfl
theorem d_Sums_copy_31 : decode (zb m_Sums_copy) 31 = .ok (.iload_n 3, 1) := zdal_p dlA_Sums_copy_127 (i := 19) rfl
theorem d_Sums_copy_32 : decode (zb m_Sums_copy) 32 = .ok (.iadd, 1) := zdal_p dlA_Sums_copy_127 (i := 20) rfl
theorem d_Sums_copy_33 : decode (zb m_Sums_copy) 33 = .ok (.invokevirtual 27, 3) := zdal_p dlA_Sums_copy_127 (i := 21) rfl
theorem d_Sums_copy_36 : decode (zb m_Sums_copy) 36 = .ok (.invokevirtual 31, 3) := zdal_p dlA_Sums_copy_127 (i := 22) rfl
theorem d_Sums_copy_39 : decode (zb m_Sums_copy) 39 = .ok (.iinc 3 1, 3) := zdal_p dlA_Sums_copy_127 (i := 23) rfl
theorem dlA_Sums_copy_128 : zdal (zb m_Sums_copy) [(42, (.goto (-40), 3)), (45, (.return_, 1))] = true := zDs 42 (by decide +kernel)
theorem d_Sums_copy_42 : decode (zb m_Sums_copy) 42 = .ok (.goto (-40), 3) := zdal_p dlA_Sums_copy_128 (i := 0) rfl
theorem d_Sums_copy_45 : decode (zb m_Sums_copy) 45 = .ok (.return_, 1) := zdal_p dlA_Sums_copy_128 (i := 1) rfl
theorem dlA_LongRow_at_129 : zdal (zb m_LongRow_at) [(0, (.iload_n 1, 1)), (1, (.ifCond .lt 21, 3)), (4, (.iload_n 1, 1)), (5, (.aload_n 0, 1)), (6, (.getfield 13, 3)), (9, (.arraylength, 1)), (10, (.if_icmp .ge 12, 3)), (13, (.aload_n 0, 1)), (14, (.getfield 13, 3)), (17, (.iload_n 1, 1)), (18, (.laload, 1)), (19, (.goto 4, 3)), (22, (.lconst 0, 1)), (23, (.lreturn, 1))] = true := zDs 0 (by decide +kernel)
theorem d_LongRow_at_0 : decode (zb m_LongRow_at) 0 = .ok (.iload_n 1, 1) := zdal_p dlA_LongRow_at_129 (i := 0) rfl
theorem d_LongRow_at_1 : decode (zb m_LongRow_at) 1 = .ok (.ifCond .lt 21, 3) := zdal_p dlA_LongRow_at_129 (i := 1) rfl
theorem d_LongRow_at_4 : decode (zb m_LongRow_at) 4 = .ok (.iload_n 1, 1) := zdal_p dlA_LongRow_at_129 (i := 2) rfl
theorem d_LongRow_at_5 : decode (zb m_LongRow_at) 5 = .ok (.aload_n 0, 1) := zdal_p dlA_LongRow_at_129 (i := 3) rfl
theorem d_LongRow_at_6 : decode (zb m_LongRow_at) 6 = .ok (.getfield 13, 3) := zdal_p dlA_LongRow_at_129 (i := 4) rfl
theorem d_LongRow_at_9 : decode (zb m_LongRow_at) 9 = .ok (.arraylength, 1) := zdal_p dlA_LongRow_at_129 (i := 5) rfl
theorem d_LongRow_at_10 : decode (zb m_LongRow_at) 10 = .ok (.if_icmp .ge 12, 3) := zdal_p dlA_LongRow_at_129 (i := 6) rfl
theorem d_LongRow_at_13 : decode (zb m_LongRow_at) 13 = .ok (.aload_n 0, 1) := zdal_p dlA_LongRow_at_129 (i := 7) rfl
theorem d_LongRow_at_14 : decode (zb m_LongRow_at) 14 = .ok (.getfield 13, 3) := zdal_p dlA_LongRow_at_129 (i := 8) rfl
theorem d_LongRow_at_17 : decode (zb m_LongRow_at) 17 = .ok (.iload_n 1, 1) := zdal_p dlA_LongRow_at_129 (i := 9) rfl
theorem d_LongRow_at_18 : decode (zb m_LongRow_at) 18 = .ok (.laload, 1) := zdal_p dlA_LongRow_at_129 (i := 10) rfl
theorem d_LongRow_at_19 : decode (zb m_LongRow_at) 19 = .ok (.goto 4, 3) := zdal_p dlA_LongRow_at_129 (i := 11) rfl
theorem d_LongRow_at_22 : decode (zb m_LongRow_at) 22 = .ok (.lconst 0, 1) := zdal_p dlA_LongRow_at_129 (i := 12) rfl
theorem d_LongRow_at_23 : decode (zb m_LongRow_at) 23 = .ok (.lreturn, 1) := zdal_p dlA_LongRow_at_129 (i := 13) rfl
theorem dlA_Calc_pushSingle_130 : zdal (zb m_Calc_pushSingle) [(0, (.aload_n 0, 1)), (1, (.getfield 20, 3)), (4, (.aload_n 0, 1)), (5, (.invokevirtual 58, 3)), (8, (.iload_n 1, 1)), (9, (.iload_n 2, 1)), (10, (.i2l, 1)), (11, (.invokevirtual 61, 3)), (14, (.return_, 1))] = true := zDs 0 (by decide +kernel)
theorem d_Calc_pushSingle_0 : decode (zb m_Calc_pushSingle) 0 = .ok (.aload_n 0, 1) := zdal_p dlA_Calc_pushSingle_130 (i := 0) rfl
theorem d_Calc_pushSingle_1 : decode (zb m_Calc_pushSingle) 1 = .ok (.getfield 20, 3) := zdal_p dlA_Calc_pushSingle_130 (i := 1) rfl
theorem d_Calc_pushSingle_4 : decode (zb m_Calc_pushSingle) 4 = .ok (.aload_n 0, 1) := zdal_p dlA_Calc_pushSingle_130 (i := 2) rfl
theorem d_Calc_pushSingle_5 : decode (zb m_Calc_pushSingle) 5 = .ok (.invokevirtual 58, 3) := zdal_p dlA_Calc_pushSingle_130 (i := 3) rfl
theorem d_Calc_pushSingle_8 : decode (zb m_Calc_pushSingle) 8 = .ok (.iload_n 1, 1) := zdal_p dlA_Calc_pushSingle_130 (i := 4) rfl
theorem d_Calc_pushSingle_9 : decode (zb m_Calc_pushSingle) 9 = .ok (.iload_n 2, 1) := zdal_p dlA_Calc_pushSingle_130 (i := 5) rfl
theorem d_Calc_pushSingle_10 : decode (zb m_Calc_pushSingle) 10 = .ok (.i2l, 1) := zdal_p dlA_Calc_pushSingle_130 (i := 6) rfl
theorem d_Calc_pushSingle_11 : decode (zb m_Calc_pushSingle) 11 = .ok (.invokevirtual 61, 3) := zdal_p dlA_Calc_pushSingle_130 (i := 7) rfl
theorem d_Calc_pushSingle_14 : decode (zb m_Calc_pushSingle) 14 = .ok (.return_, 1) := zdal_p dlA_Calc_pushSingle_130 (i := 8) rfl
theorem dlA_Reader_readBehind_131 : zdal (zb m_Reader_readBehind) [(0, (.iconst 0, 1)), (1, (.istore_n 2, 1)), (2, (.iload_n 2, 1)), (3, (.bipush 30, 2)), (5, (.if_icmp .gt 115, 3)), (8, (.aload_n 0, 1)), (9, (.getfield 15, 3)), (12, (.bipush 94, 2)), (14, (.invokevirtual 37, 3)), (17, (.ifCond .eq 56, 3)), (20, (.aload_n 0, 1)), (21, (.getfield 15, 3)), (24, (.invokevirtual 44, 3)), (27, (.aload_n 0, 1)), (28, (.getfield 15, 3)), (31, (.invokevirtual 53, 3)), (34, (.ifCond .eq 15, 3)), (37, (.aload_n 0, 1)), (38, (.getfield 15, 3)), (41, (.getfield 57, 3)), (44, (.bipush 9, 2)), (46, (.if_icmp .le 9, 3)), (49, (.aload_n 0, 1)), (50, (.iconst 2, 1))] = true := zDs 0 (by decide +kernel)
theorem d_Reader_readBehind_0 : decode (zb m_Reader_readBehind) 0 = .ok (.iconst 0, 1) := zdal_p dlA_Reader_readBehind_131 (i := 0) rfl
theorem d_Reader_readBehind_1 : decode (zb m_Reader_readBehind) 1 = .ok (.istore_n 2, 1) := zdal_p dlA_Reader_readBehind_131 (i := 1) rfl
theorem d_Reader_readBehind_2 : decode (zb m_Reader_readBehind) 2 = .ok (.iload_n 2, 1) := zdal_p dlA_Reader_readBehind_131 (i := 2) rfl
theorem d_Reader_readBehind_3 : decode (zb m_Reader_readBehind) 3 = .ok (.bipush 30, 2) := zdal_p dlA_Reader_readBehind_131 (i := 3) rfl
theorem d_Reader_readBehind_5 : decode (zb m_Reader_readBehind) 5 = .ok (.if_icmp .gt 115, 3) := zdal_p dlA_Reader_readBehind_131 (i := 4) rfl
theorem d_Reader_readBehind_8 : decode (zb m_Reader_readBehind) 8 = .ok (.aload_n 0, 1) := zdal_p dlA_Reader_readBehind_131 (i := 5) rfl
theorem d_Reader_readBehind_9 : decode (zb m_Reader_readBehind) 9 = .ok (.getfield 15, 3) := zdal_p dlA_Reader_readBehind_131 (i := 6) rfl
theorem d_Reader_readBehind_12 : decode (zb m_Reader_readBehind) 12 = .ok (.bipush 94, 2) := zdal_p dlA_Reader_readBehind_131 (i := 7) rfl
theorem d_Reader_readBehind_14 : decode (zb m_Reader_readBehind) 14 = .ok (.invokevirtual 37, 3) := zdal_p dlA_Reader_readBehind_131 (i := 8) rfl
theorem d_Reader_readBehind_17 : decode (zb m_Reader_readBehind) 17 = .ok (.ifCond .eq 56, 3) := zdal_p dlA_Reader_readBehind_131 (i := 9) rfl
theorem d_Reader_readBehind_20 : decode (zb m_Reader_readBehind) 20 = .ok (.aload_n 0, 1) := zdal_p dlA_Reader_readBehind_131 (i := 10) rfl
theorem d_Reader_readBehind_21 : decode (zb m_Reader_readBehind) 21 = .ok (.getfield 15, 3) := zdal_p dlA_Reader_readBehind_131 (i := 11) rfl
theorem d_Reader_readBehind_24 : decode (zb m_Reader_readBehind) 24 = .ok (.invokevirtual 44, 3) := zdal_p dlA_Reader_readBehind_131 (i := 12) rfl
theorem d_Reader_readBehind_27 : decode (zb m_Reader_readBehind) 27 = .ok (.aload_n 0, 1) := zdal_p dlA_Reader_readBehind_131 (i := 13) rfl
theorem d_Reader_readBehind_28 : decode (zb m_Reader_readBehind) 28 = .ok (.getfield 15, 3) := zdal_p dlA_Reader_readBehind_131 (i := 14) rfl
theorem d_Reader_readBehind_31 : decode (zb m_Reader_readBehind) 31 = .ok (.invokevirtual 53, 3) := zdal_p dlA_Reader_readBehind_131 (i := 15) rfl
theorem d_Reader_readBehind_34 : decode (zb m_Reader_readBehind) 34 = .ok (.ifCond .eq 15, 3) := zdal_p dlA_Reader_readBehind_131 (i := 16) rfl
theorem d_Reader_readBehind_37 : decode (zb m_Reader_readBehind) 37 = .ok (.aload_n 0, 1) := zdal_p dlA_Reader_readBehind_131 (i := 17) rfl
theorem d_Reader_readBehind_38 : decode (zb m_Reader_readBehind) 38 = .ok (.getfield 15, 3) := zdal_p dlA_Reader_readBehind_131 (i := 18) rfl
theorem d_Reader_readBehind_41 : decode (zb m_Reader_readBehind) 41 = .ok (.getfield 57, 3) := zdal_p dlA_Reader_readBehind_131 (i := 19) rfl
theorem d_Reader_readBehind_44 : decode (zb m_Reader_readBehind) 44 = .ok (.bipush 9, 2) := zdal_p dlA_Reader_readBehind_131 (i := 20) rfl
theorem d_Reader_readBehind_46 : decode (zb m_Reader_readBehind) 46 = .ok (.if_icmp .le 9, 3) := zdal_p dlA_Reader_readBehind_131 (i := 21) rfl
theorem d_Reader_readBehind_49 : decode (zb m_Reader_readBehind) 49 = .ok (.aload_n 0, 1) := zdal_p dlA_Reader_readBehind_131 (i := 22) rfl
theorem d_Reader_readBehind_50 : decode (zb m_Reader_readBehind) 50 = .ok (.iconst 2, 1) := zdal_p dlA_Reader_readBehind_131 (i := 23) rfl
theorem dlA_Reader_readBehind_132 : zdal (zb m_Reader_readBehind) [(51, (.invokevirtual 41, 3)), (54, (.ireturn, 1)), (55, (.aload_n 1, 1)), (56, (.aload_n 0, 1)), (57, (.getfield 15, 3)), (60, (.getfield 57, 3)), (63, (.invokevirtual 179, 3)), (66, (.aload_n 0, 1)), (67, (.getfield 15, 3)), (70, (.invokevirtual 44, 3)), (73, (.aload_n 1, 1)), (74, (.invokevirtual 182, 3)), (77, (.aload_n 1, 1)), (78, (.getfield 142, 3)), (81, (.ifCond .le 15, 3)), (84, (.aload_n 0, 1)), (85, (.getfield 15, 3)), (88, (.bipush 41, 2)), (90, (.invokevirtual 37, 3)), (93, (.ifCond .ne 5, 3)), (96, (.iconst 1, 1)), (97, (.ireturn, 1)), (98, (.aload_n 1, 1)), (99, (.iconst 0, 1))] = true := zDs 51 (by decide +kernel)
theorem d_Reader_readBehind_51 : decode (zb m_Reader_readBehind) 51 = .ok (.invokevirtual 41, 3) := zdal_p dlA_Reader_readBehind_132 (i := 0) rfl
theorem d_Reader_readBehind_54 : decode (zb m_Reader_readBehind) 54 = .ok (.ireturn, 1) := zdal_p dlA_Reader_readBehind_132 (i := 1) rfl
theorem d_Reader_readBehind_55 : decode (zb m_Reader_readBehind) 55 = .ok (.aload_n 1, 1) := zdal_p dlA_Reader_readBehind_132 (i := 2) rfl
theorem d_Reader_readBehind_56 : decode (zb m_Reader_readBehind) 56 = .ok (.aload_n 0, 1) := zdal_p dlA_Reader_readBehind_132 (i := 3) rfl
theorem d_Reader_readBehind_57 : decode (zb m_Reader_readBehind) 57 = .ok (.getfield 15, 3) := zdal_p dlA_Reader_readBehind_132 (i := 4) rfl
theorem d_Reader_readBehind_60 : decode (zb m_Reader_readBehind) 60 = .ok (.getfield 57, 3) := zdal_p dlA_Reader_readBehind_132 (i := 5) rfl
theorem d_Reader_readBehind_63 : decode (zb m_Reader_readBehind) 63 = .ok (.invokevirtual 179, 3) := zdal_p dlA_Reader_readBehind_132 (i := 6) rfl
theorem d_Reader_readBehind_66 : decode (zb m_Reader_readBehind) 66 = .ok (.aload_n 0, 1) := zdal_p dlA_Reader_readBehind_132 (i := 7) rfl
theorem d_Reader_readBehind_67 : decode (zb m_Reader_readBehind) 67 = .ok (.getfield 15, 3) := zdal_p dlA_Reader_readBehind_132 (i := 8) rfl
theorem d_Reader_readBehind_70 : decode (zb m_Reader_readBehind) 70 = .ok (.invokevirtual 44, 3) := zdal_p dlA_Reader_readBehind_132 (i := 9) rfl
theorem d_Reader_readBehind_73 : decode (zb m_Reader_readBehind) 73 = .ok (.aload_n 1, 1) := zdal_p dlA_Reader_readBehind_132 (i := 10) rfl
theorem d_Reader_readBehind_74 : decode (zb m_Reader_readBehind) 74 = .ok (.invokevirtual 182, 3) := zdal_p dlA_Reader_readBehind_132 (i := 11) rfl
theorem d_Reader_readBehind_77 : decode (zb m_Reader_readBehind) 77 = .ok (.aload_n 1, 1) := zdal_p dlA_Reader_readBehind_132 (i := 12) rfl
theorem d_Reader_readBehind_78 : decode (zb m_Reader_readBehind) 78 = .ok (.getfield 142, 3) := zdal_p dlA_Reader_readBehind_132 (i := 13) rfl
theorem d_Reader_readBehind_81 : decode (zb m_Reader_readBehind) 81 = .ok (.ifCond .le 15, 3) := zdal_p dlA_Reader_readBehind_132 (i := 14) rfl
theorem d_Reader_readBehind_84 : decode (zb m_Reader_readBehind) 84 = .ok (.aload_n 0, 1) := zdal_p dlA_Reader_readBehind_132 (i := 15) rfl
theorem d_Reader_readBehind_85 : decode (zb m_Reader_readBehind) 85 = .ok (.getfield 15, 3) := zdal_p dlA_Reader_readBehind_132 (i := 16) rfl
theorem d_Reader_readBehind_88 : decode (zb m_Reader_readBehind) 88 = .ok (.bipush 41, 2) := zdal_p dlA_Reader_readBehind_132 (i := 17) rfl
theorem d_Reader_readBehind_90 : decode (zb m_Reader_readBehind) 90 = .ok (.invokevirtual 37, 3) := zdal_p dlA_Reader_readBehind_132 (i := 18) rfl
theorem d_Reader_readBehind_93 : decode (zb m_Reader_readBehind) 93 = .ok (.ifCond .ne 5, 3) := zdal_p dlA_Reader_readBehind_132 (i := 19) rfl
theorem d_Reader_readBehind_96 : decode (zb m_Reader_readBehind) 96 = .ok (.iconst 1, 1) := zdal_p dlA_Reader_readBehind_132 (i := 20) rfl
theorem d_Reader_readBehind_97 : decode (zb m_Reader_readBehind) 97 = .ok (.ireturn, 1) := zdal_p dlA_Reader_readBehind_132 (i := 21) rfl
theorem d_Reader_readBehind_98 : decode (zb m_Reader_readBehind) 98 = .ok (.aload_n 1, 1) := zdal_p dlA_Reader_readBehind_132 (i := 22) rfl
theorem d_Reader_readBehind_99 : decode (zb m_Reader_readBehind) 99 = .ok (.iconst 0, 1) := zdal_p dlA_Reader_readBehind_132 (i := 23) rfl
theorem dlA_Reader_readBehind_133 : zdal (zb m_Reader_readBehind) [(100, (.invokevirtual 145, 3)), (103, (.aload_n 1, 1)), (104, (.invokevirtual 185, 3)), (107, (.aload_n 0, 1)), (108, (.getfield 15, 3)), (111, (.invokevirtual 44, 3)), (114, (.iinc 2 1, 3)), (117, (.goto (-115), 3)), (120, (.aload_n 0, 1)), (121, (.iconst 2, 1)), (122, (.invokevirtual 41, 3)), (125, (.ireturn, 1))] = true := zDs 100 (by decide +kernel)
theorem d_Reader_readBehind_100 : decode (zb m_Reader_readBehind) 100 = .ok (.invokevirtual 145, 3) := zdal_p dlA_Reader_readBehind_133 (i := 0) rfl
theorem d_Reader_readBehind_103 : decode (zb m_Reader_readBehind) 103 = .ok (.aload_n 1, 1) := zdal_p dlA_Reader_readBehind_133 (i := 1) rfl
theorem d_Reader_readBehind_104 : decode (zb m_Reader_readBehind) 104 = .ok (.invokevirtual 185, 3) := zdal_p dlA_Reader_readBehind_133 (i := 2) rfl
theorem d_Reader_readBehind_107 : decode (zb m_Reader_readBehind) 107 = .ok (.aload_n 0, 1) := zdal_p dlA_Reader_readBehind_133 (i := 3) rfl
theorem d_Reader_readBehind_108 : decode (zb m_Reader_readBehind) 108 = .ok (.getfield 15, 3) := zdal_p dlA_Reader_readBehind_133 (i := 4) rfl
theorem d_Reader_readBehind_111 : decode (zb m_Reader_readBehind) 111 = .ok (.invokevirtual 44, 3) := zdal_p dlA_Reader_readBehind_133 (i := 5) rfl
theorem d_Reader_readBehind_114 : decode (zb m_Reader_readBehind) 114 = .ok (.iinc 2 1, 3) := zdal_p dlA_Reader_readBehind_133 (i := 6) rfl
theorem d_Reader_readBehind_117 : decode (zb m_Reader_readBehind) 117 = .ok (.goto (-115), 3) := zdal_p dlA_Reader_readBehind_133 (i := 7) rfl
theorem d_Reader_readBehind_120 : decode (zb m_Reader_readBehind) 120 = .ok (.aload_n 0, 1) := zdal_p dlA_Reader_readBehind_133 (i := 8) rfl
theorem d_Reader_readBehind_121 : decode (zb m_Reader_readBehind) 121 = .ok (.iconst 2, 1) := zdal_p dlA_Reader_readBehind_133 (i := 9) rfl
theorem d_Reader_readBehind_122 : decode (zb m_Reader_readBehind) 122 = .ok (.invokevirtual 41, 3) := zdal_p dlA_Reader_readBehind_133 (i := 10) rfl
theorem d_Reader_readBehind_125 : decode (zb m_Reader_readBehind) 125 = .ok (.ireturn, 1) := zdal_p dlA_Reader_readBehind_133 (i := 11) rfl
theorem dlA_Calc_raise_134 : zdal (zb m_Calc_raise) [(0, (.aload_n 0, 1)), (1, (.invokevirtual 43, 3)), (4, (.istore_n 2, 1)), (5, (.aload_n 0, 1)), (6, (.getfield 20, 3)), (9, (.iload_n 2, 1)), (10, (.bipush 39, 2)), (12, (.invokevirtual 65, 3)), (15, (.aload_n 0, 1)), (16, (.getfield 20, 3)), (19, (.iload_n 2, 1)), (20, (.aload_n 0, 1)), (21, (.getfield 20, 3)), (24, (.getfield 68, 3)), (27, (.getfield 72, 3)), (30, (.iconst 1, 1)), (31, (.isub, 1)), (32, (.lconst 1, 1)), (33, (.invokevirtual 61, 3)), (36, (.iconst 0, 1)), (37, (.istore_n 3, 1)), (38, (.iload_n 3, 1)), (39, (.iload_n 1, 1)), (40, (.if_icmp .ge 52, 3))] = true := zDs 0 (by decide +kernel)
theorem d_Calc_raise_0 : decode (zb m_Calc_raise) 0 = .ok (.aload_n 0, 1) := zdal_p dlA_Calc_raise_134 (i := 0) rfl
theorem d_Calc_raise_1 : decode (zb m_Calc_raise) 1 = .ok (.invokevirtual 43, 3) := zdal_p dlA_Calc_raise_134 (i := 1) rfl
theorem d_Calc_raise_4 : decode (zb m_Calc_raise) 4 = .ok (.istore_n 2, 1) := zdal_p dlA_Calc_raise_134 (i := 2) rfl
theorem d_Calc_raise_5 : decode (zb m_Calc_raise) 5 = .ok (.aload_n 0, 1) := zdal_p dlA_Calc_raise_134 (i := 3) rfl
theorem d_Calc_raise_6 : decode (zb m_Calc_raise) 6 = .ok (.getfield 20, 3) := zdal_p dlA_Calc_raise_134 (i := 4) rfl
theorem d_Calc_raise_9 : decode (zb m_Calc_raise) 9 = .ok (.iload_n 2, 1) := zdal_p dlA_Calc_raise_134 (i := 5) rfl
theorem d_Calc_raise_10 : decode (zb m_Calc_raise) 10 = .ok (.bipush 39, 2) := zdal_p dlA_Calc_raise_134 (i := 6) rfl
theorem d_Calc_raise_12 : decode (zb m_Calc_raise) 12 = .ok (.invokevirtual 65, 3) := zdal_p dlA_Calc_raise_134 (i := 7) rfl
theorem d_Calc_raise_15 : decode (zb m_Calc_raise) 15 = .ok (.aload_n 0, 1) := zdal_p dlA_Calc_raise_134 (i := 8) rfl
theorem d_Calc_raise_16 : decode (zb m_Calc_raise) 16 = .ok (.getfield 20, 3) := zdal_p dlA_Calc_raise_134 (i := 9) rfl
theorem d_Calc_raise_19 : decode (zb m_Calc_raise) 19 = .ok (.iload_n 2, 1) := zdal_p dlA_Calc_raise_134 (i := 10) rfl
theorem d_Calc_raise_20 : decode (zb m_Calc_raise) 20 = .ok (.aload_n 0, 1) := zdal_p dlA_Calc_raise_134 (i := 11) rfl
theorem d_Calc_raise_21 : decode (zb m_Calc_raise) 21 = .ok (.getfield 20, 3) := zdal_p dlA_Calc_raise_134 (i := 12) rfl
theorem d_Calc_raise_24 : decode (zb m_Calc_raise) 24 = .ok (.getfield 68, 3) := zdal_p dlA_Calc_raise_134 (i := 13) rfl
theorem d_Calc_raise_27 : decode (zb m_Calc_raise) 27 = .ok (.getfield 72, 3) := zdal_p dlA_Calc_raise_134 (i := 14) rfl
theorem d_Calc_raise_30 : decode (zb m_Calc_raise) 30 = .ok (.iconst 1, 1) := zdal_p dlA_Calc_raise_134 (i := 15) rfl
theorem d_Calc_raise_31 : decode (zb m_Calc_raise) 31 = .ok (.isub, 1) := zdal_p dlA_Calc_raise_134 (i := 16) rfl
theorem d_Calc_raise_32 : decode (zb m_Calc_raise) 32 = .ok (.lconst 1, 1) := zdal_p dlA_Calc_raise_134 (i := 17) rfl
theorem d_Calc_raise_33 : decode (zb m_Calc_raise) 33 = .ok (.invokevirtual 61, 3) := zdal_p dlA_Calc_raise_134 (i := 18) rfl
theorem d_Calc_raise_36 : decode (zb m_Calc_raise) 36 = .ok (.iconst 0, 1) := zdal_p dlA_Calc_raise_134 (i := 19) rfl
theorem d_Calc_raise_37 : decode (zb m_Calc_raise) 37 = .ok (.istore_n 3, 1) := zdal_p dlA_Calc_raise_134 (i := 20) rfl
theorem d_Calc_raise_38 : decode (zb m_Calc_raise) 38 = .ok (.iload_n 3, 1) := zdal_p dlA_Calc_raise_134 (i := 21) rfl
theorem d_Calc_raise_39 : decode (zb m_Calc_raise) 39 = .ok (.iload_n 1, 1) := zdal_p dlA_Calc_raise_134 (i := 22) rfl
theorem d_Calc_raise_40 : decode (zb m_Calc_raise) 40 = .ok (.if_icmp .ge 52, 3) := zdal_p dlA_Calc_raise_134 (i := 23) rfl
theorem dlA_Calc_raise_135 : zdal (zb m_Calc_raise) [(43, (.iload_n 3, 1)), (44, (.bipush 9, 2)), (46, (.if_icmp .ge 46, 3)), (49, (.aload_n 0, 1)), (50, (.getfield 20, 3)), (53, (.iload_n 2, 1)), (54, (.bipush 39, 2)), (56, (.invokevirtual 77, 3)), (59, (.istore 4, 2)), (61, (.aload_n 0, 1)), (62, (.iload 4, 2)), (64, (.ifCond .eq 18, 3)), (67, (.aload_n 0, 1)), (68, (.getfield 20, 3)), (71, (.iload_n 2, 1)), (72, (.invokevirtual 81, 3)), (75, (.ifCond .eq 7, 3)), (78, (.iconst 1, 1)), (79, (.goto 4, 3)), (82, (.iconst 0, 1)), (83, (.invokevirtual 85, 3)), (86, (.iinc 3 1, 3)), (89, (.goto (-51), 3)), (92, (.return_, 1))] = true := zDs 43 (by decide +kernel)
theorem d_Calc_raise_43 : decode (zb m_Calc_raise) 43 = .ok (.iload_n 3, 1) := zdal_p dlA_Calc_raise_135 (i := 0) rfl
theorem d_Calc_raise_44 : decode (zb m_Calc_raise) 44 = .ok (.bipush 9, 2) := zdal_p dlA_Calc_raise_135 (i := 1) rfl
theorem d_Calc_raise_46 : decode (zb m_Calc_raise) 46 = .ok (.if_icmp .ge 46, 3) := zdal_p dlA_Calc_raise_135 (i := 2) rfl
theorem d_Calc_raise_49 : decode (zb m_Calc_raise) 49 = .ok (.aload_n 0, 1) := zdal_p dlA_Calc_raise_135 (i := 3) rfl
theorem d_Calc_raise_50 : decode (zb m_Calc_raise) 50 = .ok (.getfield 20, 3) := zdal_p dlA_Calc_raise_135 (i := 4) rfl
theorem d_Calc_raise_53 : decode (zb m_Calc_raise) 53 = .ok (.iload_n 2, 1) := zdal_p dlA_Calc_raise_135 (i := 5) rfl
theorem d_Calc_raise_54 : decode (zb m_Calc_raise) 54 = .ok (.bipush 39, 2) := zdal_p dlA_Calc_raise_135 (i := 6) rfl
theorem d_Calc_raise_56 : decode (zb m_Calc_raise) 56 = .ok (.invokevirtual 77, 3) := zdal_p dlA_Calc_raise_135 (i := 7) rfl
theorem d_Calc_raise_59 : decode (zb m_Calc_raise) 59 = .ok (.istore 4, 2) := zdal_p dlA_Calc_raise_135 (i := 8) rfl
theorem d_Calc_raise_61 : decode (zb m_Calc_raise) 61 = .ok (.aload_n 0, 1) := zdal_p dlA_Calc_raise_135 (i := 9) rfl
theorem d_Calc_raise_62 : decode (zb m_Calc_raise) 62 = .ok (.iload 4, 2) := zdal_p dlA_Calc_raise_135 (i := 10) rfl
theorem d_Calc_raise_64 : decode (zb m_Calc_raise) 64 = .ok (.ifCond .eq 18, 3) := zdal_p dlA_Calc_raise_135 (i := 11) rfl
theorem d_Calc_raise_67 : decode (zb m_Calc_raise) 67 = .ok (.aload_n 0, 1) := zdal_p dlA_Calc_raise_135 (i := 12) rfl
theorem d_Calc_raise_68 : decode (zb m_Calc_raise) 68 = .ok (.getfield 20, 3) := zdal_p dlA_Calc_raise_135 (i := 13) rfl
theorem d_Calc_raise_71 : decode (zb m_Calc_raise) 71 = .ok (.iload_n 2, 1) := zdal_p dlA_Calc_raise_135 (i := 14) rfl
theorem d_Calc_raise_72 : decode (zb m_Calc_raise) 72 = .ok (.invokevirtual 81, 3) := zdal_p dlA_Calc_raise_135 (i := 15) rfl
theorem d_Calc_raise_75 : decode (zb m_Calc_raise) 75 = .ok (.ifCond .eq 7, 3) := zdal_p dlA_Calc_raise_135 (i := 16) rfl
theorem d_Calc_raise_78 : decode (zb m_Calc_raise) 78 = .ok (.iconst 1, 1) := zdal_p dlA_Calc_raise_135 (i := 17) rfl
theorem d_Calc_raise_79 : decode (zb m_Calc_raise) 79 = .ok (.goto 4, 3) := zdal_p dlA_Calc_raise_135 (i := 18) rfl
theorem d_Calc_raise_82 : decode (zb m_Calc_raise) 82 = .ok (.iconst 0, 1) := zdal_p dlA_Calc_raise_135 (i := 19) rfl
theorem d_Calc_raise_83 : decode (zb m_Calc_raise) 83 = .ok (.invokevirtual 85, 3) := zdal_p dlA_Calc_raise_135 (i := 20) rfl
theorem d_Calc_raise_86 : decode (zb m_Calc_raise) 86 = .ok (.iinc 3 1, 3) := zdal_p dlA_Calc_raise_135 (i := 21) rfl
theorem d_Calc_raise_89 : decode (zb m_Calc_raise) 89 = .ok (.goto (-51), 3) := zdal_p dlA_Calc_raise_135 (i := 22) rfl
theorem d_Calc_raise_92 : decode (zb m_Calc_raise) 92 = .ok (.return_, 1) := zdal_p dlA_Calc_raise_135 (i := 23) rfl
theorem dlA_Sums_multiply_136 : zdal (zb m_Sums_multiply) [(0, (.iconst 0, 1)), (1, (.istore_n 3, 1)), (2, (.iload_n 3, 1)), (3, (.aload_n 0, 1)), (4, (.getfield 23, 3)), (7, (.getfield 35, 3)), (10, (.if_icmp .ge 65, 3)), (13, (.aload_n 0, 1)), (14, (.iload_n 1, 1)), (15, (.iload_n 3, 1)), (16, (.invokevirtual 50, 3)), (19, (.lstore 4, 2)), (21, (.aload_n 0, 1)), (22, (.iload_n 2, 1)), (23, (.iload_n 3, 1)), (24, (.invokevirtual 50, 3)), (27, (.lstore 6, 2)), (29, (.lload 4, 2)), (31, (.lconst 0, 1)), (32, (.lcmp, 1)), (33, (.ifCond .eq 23, 3)), (36, (.lload 6, 2)), (38, (.invokestatic 74, 3)), (41, (.ldc2_w 80, 3))] = true := zDs 0 (by decide +kernel)
theorem d_Sums_multiply_0 : decode (zb m_Sums_multiply) 0 = .ok (.iconst 0, 1) := zdal_p dlA_Sums_multiply_136 (i := 0) rfl
theorem d_Sums_multiply_1 : decode (zb m_Sums_multiply) 1 = .ok (.istore_n 3, 1) := zdal_p dlA_Sums_multiply_136 (i := 1) rfl
theorem d_Sums_multiply_2 : decode (zb m_Sums_multiply) 2 = .ok (.iload_n 3, 1) := zdal_p dlA_Sums_multiply_136 (i := 2) rfl
theorem d_Sums_multiply_3 : decode (zb m_Sums_multiply) 3 = .ok (.aload_n 0, 1) := zdal_p dlA_Sums_multiply_136 (i := 3) rfl
theorem d_Sums_multiply_4 : decode (zb m_Sums_multiply) 4 = .ok (.getfield 23, 3) := zdal_p dlA_Sums_multiply_136 (i := 4) rfl
theorem d_Sums_multiply_7 : decode (zb m_Sums_multiply) 7 = .ok (.getfield 35, 3) := zdal_p dlA_Sums_multiply_136 (i := 5) rfl
theorem d_Sums_multiply_10 : decode (zb m_Sums_multiply) 10 = .ok (.if_icmp .ge 65, 3) := zdal_p dlA_Sums_multiply_136 (i := 6) rfl
theorem d_Sums_multiply_13 : decode (zb m_Sums_multiply) 13 = .ok (.aload_n 0, 1) := zdal_p dlA_Sums_multiply_136 (i := 7) rfl
theorem d_Sums_multiply_14 : decode (zb m_Sums_multiply) 14 = .ok (.iload_n 1, 1) := zdal_p dlA_Sums_multiply_136 (i := 8) rfl
theorem d_Sums_multiply_15 : decode (zb m_Sums_multiply) 15 = .ok (.iload_n 3, 1) := zdal_p dlA_Sums_multiply_136 (i := 9) rfl
theorem d_Sums_multiply_16 : decode (zb m_Sums_multiply) 16 = .ok (.invokevirtual 50, 3) := zdal_p dlA_Sums_multiply_136 (i := 10) rfl
theorem d_Sums_multiply_19 : decode (zb m_Sums_multiply) 19 = .ok (.lstore 4, 2) := zdal_p dlA_Sums_multiply_136 (i := 11) rfl
theorem d_Sums_multiply_21 : decode (zb m_Sums_multiply) 21 = .ok (.aload_n 0, 1) := zdal_p dlA_Sums_multiply_136 (i := 12) rfl
theorem d_Sums_multiply_22 : decode (zb m_Sums_multiply) 22 = .ok (.iload_n 2, 1) := zdal_p dlA_Sums_multiply_136 (i := 13) rfl
theorem d_Sums_multiply_23 : decode (zb m_Sums_multiply) 23 = .ok (.iload_n 3, 1) := zdal_p dlA_Sums_multiply_136 (i := 14) rfl
theorem d_Sums_multiply_24 : decode (zb m_Sums_multiply) 24 = .ok (.invokevirtual 50, 3) := zdal_p dlA_Sums_multiply_136 (i := 15) rfl
theorem d_Sums_multiply_27 : decode (zb m_Sums_multiply) 27 = .ok (.lstore 6, 2) := zdal_p dlA_Sums_multiply_136 (i := 16) rfl
theorem d_Sums_multiply_29 : decode (zb m_Sums_multiply) 29 = .ok (.lload 4, 2) := zdal_p dlA_Sums_multiply_136 (i := 17) rfl
theorem d_Sums_multiply_31 : decode (zb m_Sums_multiply) 31 = .ok (.lconst 0, 1) := zdal_p dlA_Sums_multiply_136 (i := 18) rfl
theorem d_Sums_multiply_32 : decode (zb m_Sums_multiply) 32 = .ok (.lcmp, 1) := zdal_p dlA_Sums_multiply_136 (i := 19) rfl
theorem d_Sums_multiply_33 : decode (zb m_Sums_multiply) 33 = .ok (.ifCond .eq 23, 3) := zdal_p dlA_Sums_multiply_136 (i := 20) rfl
theorem d_Sums_multiply_36 : decode (zb m_Sums_multiply) 36 = .ok (.lload 6, 2) := zdal_p dlA_Sums_multiply_136 (i := 21) rfl
theorem d_Sums_multiply_38 : decode (zb m_Sums_multiply) 38 = .ok (.invokestatic 74, 3) := zdal_p dlA_Sums_multiply_136 (i := 22) rfl
theorem d_Sums_multiply_41 : decode (zb m_Sums_multiply) 41 = .ok (.ldc2_w 80, 3) := zdal_p dlA_Sums_multiply_136 (i := 23) rfl
theorem dlA_Sums_multiply_137 : zdal (zb m_Sums_multiply) [(44, (.lload 4, 2)), (46, (.invokestatic 74, 3)), (49, (.ldiv, 1)), (50, (.lcmp, 1)), (51, (.ifCond .le 5, 3)), (54, (.iconst 0, 1)), (55, (.ireturn, 1)), (56, (.aload_n 0, 1)), (57, (.getfield 20, 3)), (60, (.iload_n 3, 1)), (61, (.lload 4, 2)), (63, (.lload 6, 2)), (65, (.lmul, 1)), (66, (.invokevirtual 31, 3)), (69, (.iinc 3 1, 3)), (72, (.goto (-70), 3)), (75, (.aload_n 0, 1)), (76, (.iload_n 1, 1)), (77, (.invokevirtual 58, 3)), (80, (.iconst 1, 1)), (81, (.ireturn, 1))] = true := zDs 44 (by decide +kernel)
theorem d_Sums_multiply_44 : decode (zb m_Sums_multiply) 44 = .ok (.lload 4, 2) := zdal_p dlA_Sums_multiply_137 (i := 0) rfl
theorem d_Sums_multiply_46 : decode (zb m_Sums_multiply) 46 = .ok (.invokestatic 74, 3) := zdal_p dlA_Sums_multiply_137 (i := 1) rfl
theorem d_Sums_multiply_49 : decode (zb m_Sums_multiply) 49 = .ok (.ldiv, 1) := zdal_p dlA_Sums_multiply_137 (i := 2) rfl
theorem d_Sums_multiply_50 : decode (zb m_Sums_multiply) 50 = .ok (.lcmp, 1) := zdal_p dlA_Sums_multiply_137 (i := 3) rfl
theorem d_Sums_multiply_51 : decode (zb m_Sums_multiply) 51 = .ok (.ifCond .le 5, 3) := zdal_p dlA_Sums_multiply_137 (i := 4) rfl
theorem d_Sums_multiply_54 : decode (zb m_Sums_multiply) 54 = .ok (.iconst 0, 1) := zdal_p dlA_Sums_multiply_137 (i := 5) rfl
theorem d_Sums_multiply_55 : decode (zb m_Sums_multiply) 55 = .ok (.ireturn, 1) := zdal_p dlA_Sums_multiply_137 (i := 6) rfl
theorem d_Sums_multiply_56 : decode (zb m_Sums_multiply) 56 = .ok (.aload_n 0, 1) := zdal_p dlA_Sums_multiply_137 (i := 7) rfl
theorem d_Sums_multiply_57 : decode (zb m_Sums_multiply) 57 = .ok (.getfield 20, 3) := zdal_p dlA_Sums_multiply_137 (i := 8) rfl
theorem d_Sums_multiply_60 : decode (zb m_Sums_multiply) 60 = .ok (.iload_n 3, 1) := zdal_p dlA_Sums_multiply_137 (i := 9) rfl
theorem d_Sums_multiply_61 : decode (zb m_Sums_multiply) 61 = .ok (.lload 4, 2) := zdal_p dlA_Sums_multiply_137 (i := 10) rfl
theorem d_Sums_multiply_63 : decode (zb m_Sums_multiply) 63 = .ok (.lload 6, 2) := zdal_p dlA_Sums_multiply_137 (i := 11) rfl
theorem d_Sums_multiply_65 : decode (zb m_Sums_multiply) 65 = .ok (.lmul, 1) := zdal_p dlA_Sums_multiply_137 (i := 12) rfl
theorem d_Sums_multiply_66 : decode (zb m_Sums_multiply) 66 = .ok (.invokevirtual 31, 3) := zdal_p dlA_Sums_multiply_137 (i := 13) rfl
theorem d_Sums_multiply_69 : decode (zb m_Sums_multiply) 69 = .ok (.iinc 3 1, 3) := zdal_p dlA_Sums_multiply_137 (i := 14) rfl
theorem d_Sums_multiply_72 : decode (zb m_Sums_multiply) 72 = .ok (.goto (-70), 3) := zdal_p dlA_Sums_multiply_137 (i := 15) rfl
theorem d_Sums_multiply_75 : decode (zb m_Sums_multiply) 75 = .ok (.aload_n 0, 1) := zdal_p dlA_Sums_multiply_137 (i := 16) rfl
theorem d_Sums_multiply_76 : decode (zb m_Sums_multiply) 76 = .ok (.iload_n 1, 1) := zdal_p dlA_Sums_multiply_137 (i := 17) rfl
theorem d_Sums_multiply_77 : decode (zb m_Sums_multiply) 77 = .ok (.invokevirtual 58, 3) := zdal_p dlA_Sums_multiply_137 (i := 18) rfl
theorem d_Sums_multiply_80 : decode (zb m_Sums_multiply) 80 = .ok (.iconst 1, 1) := zdal_p dlA_Sums_multiply_137 (i := 19) rfl
theorem d_Sums_multiply_81 : decode (zb m_Sums_multiply) 81 = .ok (.ireturn, 1) := zdal_p dlA_Sums_multiply_137 (i := 20) rfl
theorem dlA_Sums_markOf_138 : zdal (zb m_Sums_markOf) [(0, (.lconst 0, 1)), (1, (.lstore_n 3, 1)), (2, (.iconst 0, 1)), (3, (.istore 5, 2)), (5, (.iload 5, 2)), (7, (.aload_n 0, 1)), (8, (.getfield 23, 3)), (11, (.getfield 35, 3)), (14, (.if_icmp .ge 45, 3)), (17, (.lload_n 3, 1)), (18, (.aload_n 0, 1)), (19, (.getfield 16, 3)), (22, (.iload_n 1, 1)), (23, (.bipush 27, 2)), (25, (.imul, 1)), (26, (.iload 5, 2)), (28, (.iadd, 1)), (29, (.invokevirtual 27, 3)), (32, (.aload_n 0, 1)), (33, (.getfield 23, 3)), (36, (.getfield 41, 3)), (39, (.iload 5, 2)), (41, (.bipush 27, 2)), (43, (.imul, 1))] = true := zDs 0 (by decide +kernel)
theorem d_Sums_markOf_0 : decode (zb m_Sums_markOf) 0 = .ok (.lconst 0, 1) := zdal_p dlA_Sums_markOf_138 (i := 0) rfl
theorem d_Sums_markOf_1 : decode (zb m_Sums_markOf) 1 = .ok (.lstore_n 3, 1) := zdal_p dlA_Sums_markOf_138 (i := 1) rfl
theorem d_Sums_markOf_2 : decode (zb m_Sums_markOf) 2 = .ok (.iconst 0, 1) := zdal_p dlA_Sums_markOf_138 (i := 2) rfl
theorem d_Sums_markOf_3 : decode (zb m_Sums_markOf) 3 = .ok (.istore 5, 2) := zdal_p dlA_Sums_markOf_138 (i := 3) rfl
theorem d_Sums_markOf_5 : decode (zb m_Sums_markOf) 5 = .ok (.iload 5, 2) := zdal_p dlA_Sums_markOf_138 (i := 4) rfl
theorem d_Sums_markOf_7 : decode (zb m_Sums_markOf) 7 = .ok (.aload_n 0, 1) := zdal_p dlA_Sums_markOf_138 (i := 5) rfl
theorem d_Sums_markOf_8 : decode (zb m_Sums_markOf) 8 = .ok (.getfield 23, 3) := zdal_p dlA_Sums_markOf_138 (i := 6) rfl
theorem d_Sums_markOf_11 : decode (zb m_Sums_markOf) 11 = .ok (.getfield 35, 3) := zdal_p dlA_Sums_markOf_138 (i := 7) rfl
theorem d_Sums_markOf_14 : decode (zb m_Sums_markOf) 14 = .ok (.if_icmp .ge 45, 3) := zdal_p dlA_Sums_markOf_138 (i := 8) rfl
theorem d_Sums_markOf_17 : decode (zb m_Sums_markOf) 17 = .ok (.lload_n 3, 1) := zdal_p dlA_Sums_markOf_138 (i := 9) rfl
theorem d_Sums_markOf_18 : decode (zb m_Sums_markOf) 18 = .ok (.aload_n 0, 1) := zdal_p dlA_Sums_markOf_138 (i := 10) rfl
theorem d_Sums_markOf_19 : decode (zb m_Sums_markOf) 19 = .ok (.getfield 16, 3) := zdal_p dlA_Sums_markOf_138 (i := 11) rfl
theorem d_Sums_markOf_22 : decode (zb m_Sums_markOf) 22 = .ok (.iload_n 1, 1) := zdal_p dlA_Sums_markOf_138 (i := 12) rfl
theorem d_Sums_markOf_23 : decode (zb m_Sums_markOf) 23 = .ok (.bipush 27, 2) := zdal_p dlA_Sums_markOf_138 (i := 13) rfl
theorem d_Sums_markOf_25 : decode (zb m_Sums_markOf) 25 = .ok (.imul, 1) := zdal_p dlA_Sums_markOf_138 (i := 14) rfl
theorem d_Sums_markOf_26 : decode (zb m_Sums_markOf) 26 = .ok (.iload 5, 2) := zdal_p dlA_Sums_markOf_138 (i := 15) rfl
theorem d_Sums_markOf_28 : decode (zb m_Sums_markOf) 28 = .ok (.iadd, 1) := zdal_p dlA_Sums_markOf_138 (i := 16) rfl
theorem d_Sums_markOf_29 : decode (zb m_Sums_markOf) 29 = .ok (.invokevirtual 27, 3) := zdal_p dlA_Sums_markOf_138 (i := 17) rfl
theorem d_Sums_markOf_32 : decode (zb m_Sums_markOf) 32 = .ok (.aload_n 0, 1) := zdal_p dlA_Sums_markOf_138 (i := 18) rfl
theorem d_Sums_markOf_33 : decode (zb m_Sums_markOf) 33 = .ok (.getfield 23, 3) := zdal_p dlA_Sums_markOf_138 (i := 19) rfl
theorem d_Sums_markOf_36 : decode (zb m_Sums_markOf) 36 = .ok (.getfield 41, 3) := zdal_p dlA_Sums_markOf_138 (i := 20) rfl
theorem d_Sums_markOf_39 : decode (zb m_Sums_markOf) 39 = .ok (.iload 5, 2) := zdal_p dlA_Sums_markOf_138 (i := 21) rfl
theorem d_Sums_markOf_41 : decode (zb m_Sums_markOf) 41 = .ok (.bipush 27, 2) := zdal_p dlA_Sums_markOf_138 (i := 22) rfl
theorem d_Sums_markOf_43 : decode (zb m_Sums_markOf) 43 = .ok (.imul, 1) := zdal_p dlA_Sums_markOf_138 (i := 23) rfl
theorem dlA_Sums_markOf_139 : zdal (zb m_Sums_markOf) [(44, (.iload_n 2, 1)), (45, (.iadd, 1)), (46, (.invokevirtual 45, 3)), (49, (.i2l, 1)), (50, (.lmul, 1)), (51, (.ladd, 1)), (52, (.lstore_n 3, 1)), (53, (.iinc 5 1, 3)), (56, (.goto (-51), 3)), (59, (.lload_n 3, 1)), (60, (.lreturn, 1))] = true := zDs 44 (by decide +kernel)
theorem d_Sums_markOf_44 : decode (zb m_Sums_markOf) 44 = .ok (.iload_n 2, 1) := zdal_p dlA_Sums_markOf_139 (i := 0) rfl
theorem d_Sums_markOf_45 : decode (zb m_Sums_markOf) 45 = .ok (.iadd, 1) := zdal_p dlA_Sums_markOf_139 (i := 1) rfl
theorem d_Sums_markOf_46 : decode (zb m_Sums_markOf) 46 = .ok (.invokevirtual 45, 3) := zdal_p dlA_Sums_markOf_139 (i := 2) rfl
theorem d_Sums_markOf_49 : decode (zb m_Sums_markOf) 49 = .ok (.i2l, 1) := zdal_p dlA_Sums_markOf_139 (i := 3) rfl
theorem d_Sums_markOf_50 : decode (zb m_Sums_markOf) 50 = .ok (.lmul, 1) := zdal_p dlA_Sums_markOf_139 (i := 4) rfl
theorem d_Sums_markOf_51 : decode (zb m_Sums_markOf) 51 = .ok (.ladd, 1) := zdal_p dlA_Sums_markOf_139 (i := 5) rfl
theorem d_Sums_markOf_52 : decode (zb m_Sums_markOf) 52 = .ok (.lstore_n 3, 1) := zdal_p dlA_Sums_markOf_139 (i := 6) rfl
theorem d_Sums_markOf_53 : decode (zb m_Sums_markOf) 53 = .ok (.iinc 5 1, 3) := zdal_p dlA_Sums_markOf_139 (i := 7) rfl
theorem d_Sums_markOf_56 : decode (zb m_Sums_markOf) 56 = .ok (.goto (-51), 3) := zdal_p dlA_Sums_markOf_139 (i := 8) rfl
theorem d_Sums_markOf_59 : decode (zb m_Sums_markOf) 59 = .ok (.lload_n 3, 1) := zdal_p dlA_Sums_markOf_139 (i := 9) rfl
theorem d_Sums_markOf_60 : decode (zb m_Sums_markOf) 60 = .ok (.lreturn, 1) := zdal_p dlA_Sums_markOf_139 (i := 10) rfl
theorem dlA_Sums_solve_140 : zdal (zb m_Sums_solve) [(0, (.aload_n 0, 1)), (1, (.getfield 23, 3)), (4, (.getfield 35, 3)), (7, (.iconst 1, 1)), (8, (.isub, 1)), (9, (.istore_n 2, 1)), (10, (.iload_n 2, 1)), (11, (.ifCond .lt 122, 3)), (14, (.aload_n 0, 1)), (15, (.getfield 20, 3)), (18, (.iload_n 2, 1)), (19, (.invokevirtual 27, 3)), (22, (.lstore_n 3, 1)), (23, (.iload_n 2, 1)), (24, (.iconst 1, 1)), (25, (.iadd, 1)), (26, (.istore 5, 2)), (28, (.iload 5, 2)), (30, (.aload_n 0, 1)), (31, (.getfield 23, 3)), (34, (.getfield 35, 3)), (37, (.if_icmp .ge 45, 3)), (40, (.lload_n 3, 1)), (41, (.aload_n 0, 1))] = true := zDs 0 (by decide +kernel)
theorem d_Sums_solve_0 : decode (zb m_Sums_solve) 0 = .ok (.aload_n 0, 1) := zdal_p dlA_Sums_solve_140 (i := 0) rfl
theorem d_Sums_solve_1 : decode (zb m_Sums_solve) 1 = .ok (.getfield 23, 3) := zdal_p dlA_Sums_solve_140 (i := 1) rfl
theorem d_Sums_solve_4 : decode (zb m_Sums_solve) 4 = .ok (.getfield 35, 3) := zdal_p dlA_Sums_solve_140 (i := 2) rfl
theorem d_Sums_solve_7 : decode (zb m_Sums_solve) 7 = .ok (.iconst 1, 1) := zdal_p dlA_Sums_solve_140 (i := 3) rfl
theorem d_Sums_solve_8 : decode (zb m_Sums_solve) 8 = .ok (.isub, 1) := zdal_p dlA_Sums_solve_140 (i := 4) rfl
theorem d_Sums_solve_9 : decode (zb m_Sums_solve) 9 = .ok (.istore_n 2, 1) := zdal_p dlA_Sums_solve_140 (i := 5) rfl
theorem d_Sums_solve_10 : decode (zb m_Sums_solve) 10 = .ok (.iload_n 2, 1) := zdal_p dlA_Sums_solve_140 (i := 6) rfl
theorem d_Sums_solve_11 : decode (zb m_Sums_solve) 11 = .ok (.ifCond .lt 122, 3) := zdal_p dlA_Sums_solve_140 (i := 7) rfl
theorem d_Sums_solve_14 : decode (zb m_Sums_solve) 14 = .ok (.aload_n 0, 1) := zdal_p dlA_Sums_solve_140 (i := 8) rfl
theorem d_Sums_solve_15 : decode (zb m_Sums_solve) 15 = .ok (.getfield 20, 3) := zdal_p dlA_Sums_solve_140 (i := 9) rfl
theorem d_Sums_solve_18 : decode (zb m_Sums_solve) 18 = .ok (.iload_n 2, 1) := zdal_p dlA_Sums_solve_140 (i := 10) rfl
theorem d_Sums_solve_19 : decode (zb m_Sums_solve) 19 = .ok (.invokevirtual 27, 3) := zdal_p dlA_Sums_solve_140 (i := 11) rfl
theorem d_Sums_solve_22 : decode (zb m_Sums_solve) 22 = .ok (.lstore_n 3, 1) := zdal_p dlA_Sums_solve_140 (i := 12) rfl
theorem d_Sums_solve_23 : decode (zb m_Sums_solve) 23 = .ok (.iload_n 2, 1) := zdal_p dlA_Sums_solve_140 (i := 13) rfl
theorem d_Sums_solve_24 : decode (zb m_Sums_solve) 24 = .ok (.iconst 1, 1) := zdal_p dlA_Sums_solve_140 (i := 14) rfl
theorem d_Sums_solve_25 : decode (zb m_Sums_solve) 25 = .ok (.iadd, 1) := zdal_p dlA_Sums_solve_140 (i := 15) rfl
theorem d_Sums_solve_26 : decode (zb m_Sums_solve) 26 = .ok (.istore 5, 2) := zdal_p dlA_Sums_solve_140 (i := 16) rfl
theorem d_Sums_solve_28 : decode (zb m_Sums_solve) 28 = .ok (.iload 5, 2) := zdal_p dlA_Sums_solve_140 (i := 17) rfl
theorem d_Sums_solve_30 : decode (zb m_Sums_solve) 30 = .ok (.aload_n 0, 1) := zdal_p dlA_Sums_solve_140 (i := 18) rfl
theorem d_Sums_solve_31 : decode (zb m_Sums_solve) 31 = .ok (.getfield 23, 3) := zdal_p dlA_Sums_solve_140 (i := 19) rfl
theorem d_Sums_solve_34 : decode (zb m_Sums_solve) 34 = .ok (.getfield 35, 3) := zdal_p dlA_Sums_solve_140 (i := 20) rfl
theorem d_Sums_solve_37 : decode (zb m_Sums_solve) 37 = .ok (.if_icmp .ge 45, 3) := zdal_p dlA_Sums_solve_140 (i := 21) rfl
theorem d_Sums_solve_40 : decode (zb m_Sums_solve) 40 = .ok (.lload_n 3, 1) := zdal_p dlA_Sums_solve_140 (i := 22) rfl
theorem d_Sums_solve_41 : decode (zb m_Sums_solve) 41 = .ok (.aload_n 0, 1) := zdal_p dlA_Sums_solve_140 (i := 23) rfl
theorem dlA_Sums_solve_141 : zdal (zb m_Sums_solve) [(42, (.getfield 16, 3)), (45, (.iload_n 1, 1)), (46, (.bipush 27, 2)), (48, (.imul, 1)), (49, (.iload 5, 2)), (51, (.iadd, 1)), (52, (.invokevirtual 27, 3)), (55, (.aload_n 0, 1)), (56, (.getfield 23, 3)), (59, (.getfield 41, 3)), (62, (.iload 5, 2)), (64, (.bipush 27, 2)), (66, (.imul, 1)), (67, (.iload_n 2, 1)), (68, (.iadd, 1)), (69, (.invokevirtual 45, 3)), (72, (.i2l, 1)), (73, (.lmul, 1)), (74, (.lsub, 1)), (75, (.lstore_n 3, 1)), (76, (.iinc 5 1, 3)), (79, (.goto (-51), 3)), (82, (.aload_n 0, 1)), (83, (.getfield 23, 3))] = true := zDs 42 (by decide +kernel)
theorem d_Sums_solve_42 : decode (zb m_Sums_solve) 42 = .ok (.getfield 16, 3) := zdal_p dlA_Sums_solve_141 (i := 0) rfl
theorem d_Sums_solve_45 : decode (zb m_Sums_solve) 45 = .ok (.iload_n 1, 1) := zdal_p dlA_Sums_solve_141 (i := 1) rfl
theorem d_Sums_solve_46 : decode (zb m_Sums_solve) 46 = .ok (.bipush 27, 2) := zdal_p dlA_Sums_solve_141 (i := 2) rfl
theorem d_Sums_solve_48 : decode (zb m_Sums_solve) 48 = .ok (.imul, 1) := zdal_p dlA_Sums_solve_141 (i := 3) rfl
theorem d_Sums_solve_49 : decode (zb m_Sums_solve) 49 = .ok (.iload 5, 2) := zdal_p dlA_Sums_solve_141 (i := 4) rfl
theorem d_Sums_solve_51 : decode (zb m_Sums_solve) 51 = .ok (.iadd, 1) := zdal_p dlA_Sums_solve_141 (i := 5) rfl
theorem d_Sums_solve_52 : decode (zb m_Sums_solve) 52 = .ok (.invokevirtual 27, 3) := zdal_p dlA_Sums_solve_141 (i := 6) rfl
theorem d_Sums_solve_55 : decode (zb m_Sums_solve) 55 = .ok (.aload_n 0, 1) := zdal_p dlA_Sums_solve_141 (i := 7) rfl
theorem d_Sums_solve_56 : decode (zb m_Sums_solve) 56 = .ok (.getfield 23, 3) := zdal_p dlA_Sums_solve_141 (i := 8) rfl
theorem d_Sums_solve_59 : decode (zb m_Sums_solve) 59 = .ok (.getfield 41, 3) := zdal_p dlA_Sums_solve_141 (i := 9) rfl
theorem d_Sums_solve_62 : decode (zb m_Sums_solve) 62 = .ok (.iload 5, 2) := zdal_p dlA_Sums_solve_141 (i := 10) rfl
theorem d_Sums_solve_64 : decode (zb m_Sums_solve) 64 = .ok (.bipush 27, 2) := zdal_p dlA_Sums_solve_141 (i := 11) rfl
theorem d_Sums_solve_66 : decode (zb m_Sums_solve) 66 = .ok (.imul, 1) := zdal_p dlA_Sums_solve_141 (i := 12) rfl
theorem d_Sums_solve_67 : decode (zb m_Sums_solve) 67 = .ok (.iload_n 2, 1) := zdal_p dlA_Sums_solve_141 (i := 13) rfl
theorem d_Sums_solve_68 : decode (zb m_Sums_solve) 68 = .ok (.iadd, 1) := zdal_p dlA_Sums_solve_141 (i := 14) rfl
theorem d_Sums_solve_69 : decode (zb m_Sums_solve) 69 = .ok (.invokevirtual 45, 3) := zdal_p dlA_Sums_solve_141 (i := 15) rfl
theorem d_Sums_solve_72 : decode (zb m_Sums_solve) 72 = .ok (.i2l, 1) := zdal_p dlA_Sums_solve_141 (i := 16) rfl
theorem d_Sums_solve_73 : decode (zb m_Sums_solve) 73 = .ok (.lmul, 1) := zdal_p dlA_Sums_solve_141 (i := 17) rfl
theorem d_Sums_solve_74 : decode (zb m_Sums_solve) 74 = .ok (.lsub, 1) := zdal_p dlA_Sums_solve_141 (i := 18) rfl
theorem d_Sums_solve_75 : decode (zb m_Sums_solve) 75 = .ok (.lstore_n 3, 1) := zdal_p dlA_Sums_solve_141 (i := 19) rfl
theorem d_Sums_solve_76 : decode (zb m_Sums_solve) 76 = .ok (.iinc 5 1, 3) := zdal_p dlA_Sums_solve_141 (i := 20) rfl
theorem d_Sums_solve_79 : decode (zb m_Sums_solve) 79 = .ok (.goto (-51), 3) := zdal_p dlA_Sums_solve_141 (i := 21) rfl
theorem d_Sums_solve_82 : decode (zb m_Sums_solve) 82 = .ok (.aload_n 0, 1) := zdal_p dlA_Sums_solve_141 (i := 22) rfl
theorem d_Sums_solve_83 : decode (zb m_Sums_solve) 83 = .ok (.getfield 23, 3) := zdal_p dlA_Sums_solve_141 (i := 23) rfl
theorem dlA_Sums_solve_142 : zdal (zb m_Sums_solve) [(86, (.getfield 41, 3)), (89, (.iload_n 2, 1)), (90, (.bipush 27, 2)), (92, (.imul, 1)), (93, (.iload_n 2, 1)), (94, (.iadd, 1)), (95, (.invokevirtual 45, 3)), (98, (.istore 5, 2)), (100, (.aload_n 0, 1)), (101, (.getfield 16, 3)), (104, (.iload_n 1, 1)), (105, (.bipush 27, 2)), (107, (.imul, 1)), (108, (.iload_n 2, 1)), (109, (.iadd, 1)), (110, (.iload 5, 2)), (112, (.ifCond .eq 11, 3)), (115, (.lload_n 3, 1)), (116, (.iload 5, 2)), (118, (.i2l, 1)), (119, (.ldiv, 1)), (120, (.goto 4, 3)), (123, (.lconst 0, 1)), (124, (.invokevirtual 31, 3))] = true := zDs 86 (by decide +kernel)
theorem d_Sums_solve_86 : decode (zb m_Sums_solve) 86 = .ok (.getfield 41, 3) := zdal_p dlA_Sums_solve_142 (i := 0) rfl
theorem d_Sums_solve_89 : decode (zb m_Sums_solve) 89 = .ok (.iload_n 2, 1) := zdal_p dlA_Sums_solve_142 (i := 1) rfl
theorem d_Sums_solve_90 : decode (zb m_Sums_solve) 90 = .ok (.bipush 27, 2) := zdal_p dlA_Sums_solve_142 (i := 2) rfl
theorem d_Sums_solve_92 : decode (zb m_Sums_solve) 92 = .ok (.imul, 1) := zdal_p dlA_Sums_solve_142 (i := 3) rfl
theorem d_Sums_solve_93 : decode (zb m_Sums_solve) 93 = .ok (.iload_n 2, 1) := zdal_p dlA_Sums_solve_142 (i := 4) rfl
theorem d_Sums_solve_94 : decode (zb m_Sums_solve) 94 = .ok (.iadd, 1) := zdal_p dlA_Sums_solve_142 (i := 5) rfl
theorem d_Sums_solve_95 : decode (zb m_Sums_solve) 95 = .ok (.invokevirtual 45, 3) := zdal_p dlA_Sums_solve_142 (i := 6) rfl
theorem d_Sums_solve_98 : decode (zb m_Sums_solve) 98 = .ok (.istore 5, 2) := zdal_p dlA_Sums_solve_142 (i := 7) rfl
theorem d_Sums_solve_100 : decode (zb m_Sums_solve) 100 = .ok (.aload_n 0, 1) := zdal_p dlA_Sums_solve_142 (i := 8) rfl
theorem d_Sums_solve_101 : decode (zb m_Sums_solve) 101 = .ok (.getfield 16, 3) := zdal_p dlA_Sums_solve_142 (i := 9) rfl
theorem d_Sums_solve_104 : decode (zb m_Sums_solve) 104 = .ok (.iload_n 1, 1) := zdal_p dlA_Sums_solve_142 (i := 10) rfl
theorem d_Sums_solve_105 : decode (zb m_Sums_solve) 105 = .ok (.bipush 27, 2) := zdal_p dlA_Sums_solve_142 (i := 11) rfl
theorem d_Sums_solve_107 : decode (zb m_Sums_solve) 107 = .ok (.imul, 1) := zdal_p dlA_Sums_solve_142 (i := 12) rfl
theorem d_Sums_solve_108 : decode (zb m_Sums_solve) 108 = .ok (.iload_n 2, 1) := zdal_p dlA_Sums_solve_142 (i := 13) rfl
theorem d_Sums_solve_109 : decode (zb m_Sums_solve) 109 = .ok (.iadd, 1) := zdal_p dlA_Sums_solve_142 (i := 14) rfl
theorem d_Sums_solve_110 : decode (zb m_Sums_solve) 110 = .ok (.iload 5, 2) := zdal_p dlA_Sums_solve_142 (i := 15) rfl
theorem d_Sums_solve_112 : decode (zb m_Sums_solve) 112 = .ok (.ifCond .eq 11, 3) := zdal_p dlA_Sums_solve_142 (i := 16) rfl
theorem d_Sums_solve_115 : decode (zb m_Sums_solve) 115 = .ok (.lload_n 3, 1) := zdal_p dlA_Sums_solve_142 (i := 17) rfl
theorem d_Sums_solve_116 : decode (zb m_Sums_solve) 116 = .ok (.iload 5, 2) := zdal_p dlA_Sums_solve_142 (i := 18) rfl
theorem d_Sums_solve_118 : decode (zb m_Sums_solve) 118 = .ok (.i2l, 1) := zdal_p dlA_Sums_solve_142 (i := 19) rfl
theorem d_Sums_solve_119 : decode (zb m_Sums_solve) 119 = .ok (.ldiv, 1) := zdal_p dlA_Sums_solve_142 (i := 20) rfl
theorem d_Sums_solve_120 : decode (zb m_Sums_solve) 120 = .ok (.goto 4, 3) := zdal_p dlA_Sums_solve_142 (i := 21) rfl
theorem d_Sums_solve_123 : decode (zb m_Sums_solve) 123 = .ok (.lconst 0, 1) := zdal_p dlA_Sums_solve_142 (i := 22) rfl
theorem d_Sums_solve_124 : decode (zb m_Sums_solve) 124 = .ok (.invokevirtual 31, 3) := zdal_p dlA_Sums_solve_142 (i := 23) rfl
theorem dlA_Sums_solve_143 : zdal (zb m_Sums_solve) [(127, (.iinc 2 (-1), 3)), (130, (.goto (-120), 3)), (133, (.return_, 1))] = true := zDs 127 (by decide +kernel)
theorem d_Sums_solve_127 : decode (zb m_Sums_solve) 127 = .ok (.iinc 2 (-1), 3) := zdal_p dlA_Sums_solve_143 (i := 0) rfl
theorem d_Sums_solve_130 : decode (zb m_Sums_solve) 130 = .ok (.goto (-120), 3) := zdal_p dlA_Sums_solve_143 (i := 1) rfl
theorem d_Sums_solve_133 : decode (zb m_Sums_solve) 133 = .ok (.return_, 1) := zdal_p dlA_Sums_solve_143 (i := 2) rfl
theorem dlA_Sums_isInBounds_144 : zdal (zb m_Sums_isInBounds) [(0, (.iconst 0, 1)), (1, (.istore_n 2, 1)), (2, (.iload_n 2, 1)), (3, (.aload_n 0, 1)), (4, (.getfield 23, 3)), (7, (.getfield 35, 3)), (10, (.if_icmp .ge 43, 3)), (13, (.aload_n 0, 1)), (14, (.iload_n 1, 1)), (15, (.iload_n 2, 1)), (16, (.invokevirtual 67, 3)), (19, (.invokestatic 74, 3)), (22, (.ldc2_w 80, 3)), (25, (.lcmp, 1)), (26, (.ifCond .gt 19, 3)), (29, (.aload_n 0, 1)), (30, (.iload_n 1, 1)), (31, (.iload_n 2, 1)), (32, (.invokevirtual 50, 3)), (35, (.invokestatic 74, 3)), (38, (.ldc2_w 80, 3)), (41, (.lcmp, 1)), (42, (.ifCond .le 5, 3)), (45, (.iconst 0, 1))] = true := zDs 0 (by decide +kernel)
theorem d_Sums_isInBounds_0 : decode (zb m_Sums_isInBounds) 0 = .ok (.iconst 0, 1) := zdal_p dlA_Sums_isInBounds_144 (i := 0) rfl
theorem d_Sums_isInBounds_1 : decode (zb m_Sums_isInBounds) 1 = .ok (.istore_n 2, 1) := zdal_p dlA_Sums_isInBounds_144 (i := 1) rfl
theorem d_Sums_isInBounds_2 : decode (zb m_Sums_isInBounds) 2 = .ok (.iload_n 2, 1) := zdal_p dlA_Sums_isInBounds_144 (i := 2) rfl
theorem d_Sums_isInBounds_3 : decode (zb m_Sums_isInBounds) 3 = .ok (.aload_n 0, 1) := zdal_p dlA_Sums_isInBounds_144 (i := 3) rfl
theorem d_Sums_isInBounds_4 : decode (zb m_Sums_isInBounds) 4 = .ok (.getfield 23, 3) := zdal_p dlA_Sums_isInBounds_144 (i := 4) rfl
theorem d_Sums_isInBounds_7 : decode (zb m_Sums_isInBounds) 7 = .ok (.getfield 35, 3) := zdal_p dlA_Sums_isInBounds_144 (i := 5) rfl
theorem d_Sums_isInBounds_10 : decode (zb m_Sums_isInBounds) 10 = .ok (.if_icmp .ge 43, 3) := zdal_p dlA_Sums_isInBounds_144 (i := 6) rfl
theorem d_Sums_isInBounds_13 : decode (zb m_Sums_isInBounds) 13 = .ok (.aload_n 0, 1) := zdal_p dlA_Sums_isInBounds_144 (i := 7) rfl
theorem d_Sums_isInBounds_14 : decode (zb m_Sums_isInBounds) 14 = .ok (.iload_n 1, 1) := zdal_p dlA_Sums_isInBounds_144 (i := 8) rfl
theorem d_Sums_isInBounds_15 : decode (zb m_Sums_isInBounds) 15 = .ok (.iload_n 2, 1) := zdal_p dlA_Sums_isInBounds_144 (i := 9) rfl
theorem d_Sums_isInBounds_16 : decode (zb m_Sums_isInBounds) 16 = .ok (.invokevirtual 67, 3) := zdal_p dlA_Sums_isInBounds_144 (i := 10) rfl
theorem d_Sums_isInBounds_19 : decode (zb m_Sums_isInBounds) 19 = .ok (.invokestatic 74, 3) := zdal_p dlA_Sums_isInBounds_144 (i := 11) rfl
theorem d_Sums_isInBounds_22 : decode (zb m_Sums_isInBounds) 22 = .ok (.ldc2_w 80, 3) := zdal_p dlA_Sums_isInBounds_144 (i := 12) rfl
theorem d_Sums_isInBounds_25 : decode (zb m_Sums_isInBounds) 25 = .ok (.lcmp, 1) := zdal_p dlA_Sums_isInBounds_144 (i := 13) rfl
theorem d_Sums_isInBounds_26 : decode (zb m_Sums_isInBounds) 26 = .ok (.ifCond .gt 19, 3) := zdal_p dlA_Sums_isInBounds_144 (i := 14) rfl
theorem d_Sums_isInBounds_29 : decode (zb m_Sums_isInBounds) 29 = .ok (.aload_n 0, 1) := zdal_p dlA_Sums_isInBounds_144 (i := 15) rfl
theorem d_Sums_isInBounds_30 : decode (zb m_Sums_isInBounds) 30 = .ok (.iload_n 1, 1) := zdal_p dlA_Sums_isInBounds_144 (i := 16) rfl
theorem d_Sums_isInBounds_31 : decode (zb m_Sums_isInBounds) 31 = .ok (.iload_n 2, 1) := zdal_p dlA_Sums_isInBounds_144 (i := 17) rfl
theorem d_Sums_isInBounds_32 : decode (zb m_Sums_isInBounds) 32 = .ok (.invokevirtual 50, 3) := zdal_p dlA_Sums_isInBounds_144 (i := 18) rfl
theorem d_Sums_isInBounds_35 : decode (zb m_Sums_isInBounds) 35 = .ok (.invokestatic 74, 3) := zdal_p dlA_Sums_isInBounds_144 (i := 19) rfl
theorem d_Sums_isInBounds_38 : decode (zb m_Sums_isInBounds) 38 = .ok (.ldc2_w 80, 3) := zdal_p dlA_Sums_isInBounds_144 (i := 20) rfl
theorem d_Sums_isInBounds_41 : decode (zb m_Sums_isInBounds) 41 = .ok (.lcmp, 1) := zdal_p dlA_Sums_isInBounds_144 (i := 21) rfl
theorem d_Sums_isInBounds_42 : decode (zb m_Sums_isInBounds) 42 = .ok (.ifCond .le 5, 3) := zdal_p dlA_Sums_isInBounds_144 (i := 22) rfl
theorem d_Sums_isInBounds_45 : decode (zb m_Sums_isInBounds) 45 = .ok (.iconst 0, 1) := zdal_p dlA_Sums_isInBounds_144 (i := 23) rfl
theorem dlA_Sums_isInBounds_145 : zdal (zb m_Sums_isInBounds) [(46, (.ireturn, 1)), (47, (.iinc 2 1, 3)), (50, (.goto (-48), 3)), (53, (.iconst 1, 1)), (54, (.ireturn, 1))] = true := zDs 46 (by decide +kernel)
theorem d_Sums_isInBounds_46 : decode (zb m_Sums_isInBounds) 46 = .ok (.ireturn, 1) := zdal_p dlA_Sums_isInBounds_145 (i := 0) rfl
theorem d_Sums_isInBounds_47 : decode (zb m_Sums_isInBounds) 47 = .ok (.iinc 2 1, 3) := zdal_p dlA_Sums_isInBounds_145 (i := 1) rfl
theorem d_Sums_isInBounds_50 : decode (zb m_Sums_isInBounds) 50 = .ok (.goto (-48), 3) := zdal_p dlA_Sums_isInBounds_145 (i := 2) rfl
theorem d_Sums_isInBounds_53 : decode (zb m_Sums_isInBounds) 53 = .ok (.iconst 1, 1) := zdal_p dlA_Sums_isInBounds_145 (i := 3) rfl
theorem d_Sums_isInBounds_54 : decode (zb m_Sums_isInBounds) 54 = .ok (.ireturn, 1) := zdal_p dlA_Sums_isInBounds_145 (i := 4) rfl
theorem dlA_Sums_numberAt_146 : zdal (zb m_Sums_numberAt) [(0, (.aload_n 0, 1)), (1, (.getfield 16, 3)), (4, (.iload_n 1, 1)), (5, (.bipush 27, 2)), (7, (.imul, 1)), (8, (.iload_n 2, 1)), (9, (.iadd, 1)), (10, (.invokevirtual 27, 3)), (13, (.lreturn, 1))] = true := zDs 0 (by decide +kernel)
theorem d_Sums_numberAt_0 : decode (zb m_Sums_numberAt) 0 = .ok (.aload_n 0, 1) := zdal_p dlA_Sums_numberAt_146 (i := 0) rfl
theorem d_Sums_numberAt_1 : decode (zb m_Sums_numberAt) 1 = .ok (.getfield 16, 3) := zdal_p dlA_Sums_numberAt_146 (i := 1) rfl
theorem d_Sums_numberAt_4 : decode (zb m_Sums_numberAt) 4 = .ok (.iload_n 1, 1) := zdal_p dlA_Sums_numberAt_146 (i := 2) rfl
theorem d_Sums_numberAt_5 : decode (zb m_Sums_numberAt) 5 = .ok (.bipush 27, 2) := zdal_p dlA_Sums_numberAt_146 (i := 3) rfl
theorem d_Sums_numberAt_7 : decode (zb m_Sums_numberAt) 7 = .ok (.imul, 1) := zdal_p dlA_Sums_numberAt_146 (i := 4) rfl
theorem d_Sums_numberAt_8 : decode (zb m_Sums_numberAt) 8 = .ok (.iload_n 2, 1) := zdal_p dlA_Sums_numberAt_146 (i := 5) rfl
theorem d_Sums_numberAt_9 : decode (zb m_Sums_numberAt) 9 = .ok (.iadd, 1) := zdal_p dlA_Sums_numberAt_146 (i := 6) rfl
theorem d_Sums_numberAt_10 : decode (zb m_Sums_numberAt) 10 = .ok (.invokevirtual 27, 3) := zdal_p dlA_Sums_numberAt_146 (i := 7) rfl
theorem d_Sums_numberAt_13 : decode (zb m_Sums_numberAt) 13 = .ok (.lreturn, 1) := zdal_p dlA_Sums_numberAt_146 (i := 8) rfl
theorem dlA_Calc_settle_147 : zdal (zb m_Calc_settle) [(0, (.iload_n 1, 1)), (1, (.ifCond .ne 21, 3)), (4, (.aload_n 0, 1)), (5, (.iconst 1, 1)), (6, (.putfield 37, 3)), (9, (.aload_n 0, 1)), (10, (.getfield 20, 3)), (13, (.aload_n 0, 1)), (14, (.invokevirtual 43, 3)), (17, (.iconst (-1), 1)), (18, (.lconst 0, 1)), (19, (.invokevirtual 61, 3)), (22, (.return_, 1))] = true := zDs 0 (by decide +kernel)
theorem d_Calc_settle_0 : decode (zb m_Calc_settle) 0 = .ok (.iload_n 1, 1) := zdal_p dlA_Calc_settle_147 (i := 0) rfl
theorem d_Calc_settle_1 : decode (zb m_Calc_settle) 1 = .ok (.ifCond .ne 21, 3) := zdal_p dlA_Calc_settle_147 (i := 1) rfl
theorem d_Calc_settle_4 : decode (zb m_Calc_settle) 4 = .ok (.aload_n 0, 1) := zdal_p dlA_Calc_settle_147 (i := 2) rfl
theorem d_Calc_settle_5 : decode (zb m_Calc_settle) 5 = .ok (.iconst 1, 1) := zdal_p dlA_Calc_settle_147 (i := 3) rfl
theorem d_Calc_settle_6 : decode (zb m_Calc_settle) 6 = .ok (.putfield 37, 3) := zdal_p dlA_Calc_settle_147 (i := 4) rfl
theorem d_Calc_settle_9 : decode (zb m_Calc_settle) 9 = .ok (.aload_n 0, 1) := zdal_p dlA_Calc_settle_147 (i := 5) rfl
theorem d_Calc_settle_10 : decode (zb m_Calc_settle) 10 = .ok (.getfield 20, 3) := zdal_p dlA_Calc_settle_147 (i := 6) rfl
theorem d_Calc_settle_13 : decode (zb m_Calc_settle) 13 = .ok (.aload_n 0, 1) := zdal_p dlA_Calc_settle_147 (i := 7) rfl
theorem d_Calc_settle_14 : decode (zb m_Calc_settle) 14 = .ok (.invokevirtual 43, 3) := zdal_p dlA_Calc_settle_147 (i := 8) rfl
theorem d_Calc_settle_17 : decode (zb m_Calc_settle) 17 = .ok (.iconst (-1), 1) := zdal_p dlA_Calc_settle_147 (i := 9) rfl
theorem d_Calc_settle_18 : decode (zb m_Calc_settle) 18 = .ok (.lconst 0, 1) := zdal_p dlA_Calc_settle_147 (i := 10) rfl
theorem d_Calc_settle_19 : decode (zb m_Calc_settle) 19 = .ok (.invokevirtual 61, 3) := zdal_p dlA_Calc_settle_147 (i := 11) rfl
theorem d_Calc_settle_22 : decode (zb m_Calc_settle) 22 = .ok (.return_, 1) := zdal_p dlA_Calc_settle_147 (i := 12) rfl
theorem dlA_Calc_negate_148 : zdal (zb m_Calc_negate) [(0, (.aload_n 0, 1)), (1, (.getfield 24, 3)), (4, (.ifCond .le 46, 3)), (7, (.aload_n 0, 1)), (8, (.invokevirtual 89, 3)), (11, (.bipush 126, 2)), (13, (.if_icmp .ne 37, 3)), (16, (.aload_n 0, 1)), (17, (.dup, 1)), (18, (.getfield 24, 3)), (21, (.iconst 1, 1)), (22, (.isub, 1)), (23, (.putfield 24, 3)), (26, (.aload_n 0, 1)), (27, (.dup, 1)), (28, (.getfield 31, 3)), (31, (.iconst 1, 1)), (32, (.isub, 1)), (33, (.putfield 31, 3)), (36, (.aload_n 0, 1)), (37, (.getfield 20, 3)), (40, (.aload_n 0, 1)), (41, (.invokevirtual 43, 3)), (44, (.invokevirtual 92, 3))] = true := zDs 0 (by decide +kernel)
theorem d_Calc_negate_0 : decode (zb m_Calc_negate) 0 = .ok (.aload_n 0, 1) := zdal_p dlA_Calc_negate_148 (i := 0) rfl
theorem d_Calc_negate_1 : decode (zb m_Calc_negate) 1 = .ok (.getfield 24, 3) := zdal_p dlA_Calc_negate_148 (i := 1) rfl
theorem d_Calc_negate_4 : decode (zb m_Calc_negate) 4 = .ok (.ifCond .le 46, 3) := zdal_p dlA_Calc_negate_148 (i := 2) rfl
theorem d_Calc_negate_7 : decode (zb m_Calc_negate) 7 = .ok (.aload_n 0, 1) := zdal_p dlA_Calc_negate_148 (i := 3) rfl
theorem d_Calc_negate_8 : decode (zb m_Calc_negate) 8 = .ok (.invokevirtual 89, 3) := zdal_p dlA_Calc_negate_148 (i := 4) rfl
theorem d_Calc_negate_11 : decode (zb m_Calc_negate) 11 = .ok (.bipush 126, 2) := zdal_p dlA_Calc_negate_148 (i := 5) rfl
theorem d_Calc_negate_13 : decode (zb m_Calc_negate) 13 = .ok (.if_icmp .ne 37, 3) := zdal_p dlA_Calc_negate_148 (i := 6) rfl
theorem d_Calc_negate_16 : decode (zb m_Calc_negate) 16 = .ok (.aload_n 0, 1) := zdal_p dlA_Calc_negate_148 (i := 7) rfl
theorem d_Calc_negate_17 : decode (zb m_Calc_negate) 17 = .ok (.dup, 1) := zdal_p dlA_Calc_negate_148 (i := 8) rfl
theorem d_Calc_negate_18 : decode (zb m_Calc_negate) 18 = .ok (.getfield 24, 3) := zdal_p dlA_Calc_negate_148 (i := 9) rfl
theorem d_Calc_negate_21 : decode (zb m_Calc_negate) 21 = .ok (.iconst 1, 1) := zdal_p dlA_Calc_negate_148 (i := 10) rfl
theorem d_Calc_negate_22 : decode (zb m_Calc_negate) 22 = .ok (.isub, 1) := zdal_p dlA_Calc_negate_148 (i := 11) rfl
theorem d_Calc_negate_23 : decode (zb m_Calc_negate) 23 = .ok (.putfield 24, 3) := zdal_p dlA_Calc_negate_148 (i := 12) rfl
theorem d_Calc_negate_26 : decode (zb m_Calc_negate) 26 = .ok (.aload_n 0, 1) := zdal_p dlA_Calc_negate_148 (i := 13) rfl
theorem d_Calc_negate_27 : decode (zb m_Calc_negate) 27 = .ok (.dup, 1) := zdal_p dlA_Calc_negate_148 (i := 14) rfl
theorem d_Calc_negate_28 : decode (zb m_Calc_negate) 28 = .ok (.getfield 31, 3) := zdal_p dlA_Calc_negate_148 (i := 15) rfl
theorem d_Calc_negate_31 : decode (zb m_Calc_negate) 31 = .ok (.iconst 1, 1) := zdal_p dlA_Calc_negate_148 (i := 16) rfl
theorem d_Calc_negate_32 : decode (zb m_Calc_negate) 32 = .ok (.isub, 1) := zdal_p dlA_Calc_negate_148 (i := 17) rfl
theorem d_Calc_negate_33 : decode (zb m_Calc_negate) 33 = .ok (.putfield 31, 3) := zdal_p dlA_Calc_negate_148 (i := 18) rfl
theorem d_Calc_negate_36 : decode (zb m_Calc_negate) 36 = .ok (.aload_n 0, 1) := zdal_p dlA_Calc_negate_148 (i := 19) rfl
theorem d_Calc_negate_37 : decode (zb m_Calc_negate) 37 = .ok (.getfield 20, 3) := zdal_p dlA_Calc_negate_148 (i := 20) rfl
theorem d_Calc_negate_40 : decode (zb m_Calc_negate) 40 = .ok (.aload_n 0, 1) := zdal_p dlA_Calc_negate_148 (i := 21) rfl
theorem d_Calc_negate_41 : decode (zb m_Calc_negate) 41 = .ok (.invokevirtual 43, 3) := zdal_p dlA_Calc_negate_148 (i := 22) rfl
theorem d_Calc_negate_44 : decode (zb m_Calc_negate) 44 = .ok (.invokevirtual 92, 3) := zdal_p dlA_Calc_negate_148 (i := 23) rfl
theorem dlA_Calc_negate_149 : zdal (zb m_Calc_negate) [(47, (.goto (-47), 3)), (50, (.return_, 1))] = true := zDs 47 (by decide +kernel)
theorem d_Calc_negate_47 : decode (zb m_Calc_negate) 47 = .ok (.goto (-47), 3) := zdal_p dlA_Calc_negate_149 (i := 0) rfl
theorem d_Calc_negate_50 : decode (zb m_Calc_negate) 50 = .ok (.return_, 1) := zdal_p dlA_Calc_negate_149 (i := 1) rfl
theorem dlA_Calc_topSign_150 : zdal (zb m_Calc_topSign) [(0, (.aload_n 0, 1)), (1, (.getfield 14, 3)), (4, (.aload_n 0, 1)), (5, (.getfield 24, 3)), (8, (.iconst 1, 1)), (9, (.isub, 1)), (10, (.invokevirtual 51, 3)), (13, (.ireturn, 1))] = true := zDs 0 (by decide +kernel)
theorem d_Calc_topSign_0 : decode (zb m_Calc_topSign) 0 = .ok (.aload_n 0, 1) := zdal_p dlA_Calc_topSign_150 (i := 0) rfl
theorem d_Calc_topSign_1 : decode (zb m_Calc_topSign) 1 = .ok (.getfield 14, 3) := zdal_p dlA_Calc_topSign_150 (i := 1) rfl
theorem d_Calc_topSign_4 : decode (zb m_Calc_topSign) 4 = .ok (.aload_n 0, 1) := zdal_p dlA_Calc_topSign_150 (i := 2) rfl
theorem d_Calc_topSign_5 : decode (zb m_Calc_topSign) 5 = .ok (.getfield 24, 3) := zdal_p dlA_Calc_topSign_150 (i := 3) rfl
theorem d_Calc_topSign_8 : decode (zb m_Calc_topSign) 8 = .ok (.iconst 1, 1) := zdal_p dlA_Calc_topSign_150 (i := 4) rfl
theorem d_Calc_topSign_9 : decode (zb m_Calc_topSign) 9 = .ok (.isub, 1) := zdal_p dlA_Calc_topSign_150 (i := 5) rfl
theorem d_Calc_topSign_10 : decode (zb m_Calc_topSign) 10 = .ok (.invokevirtual 51, 3) := zdal_p dlA_Calc_topSign_150 (i := 6) rfl
theorem d_Calc_topSign_13 : decode (zb m_Calc_topSign) 13 = .ok (.ireturn, 1) := zdal_p dlA_Calc_topSign_150 (i := 7) rfl
theorem dlA_Sums_putNegative_151 : zdal (zb m_Sums_putNegative) [(0, (.iconst 0, 1)), (1, (.istore_n 2, 1)), (2, (.iload_n 2, 1)), (3, (.aload_n 0, 1)), (4, (.getfield 23, 3)), (7, (.getfield 35, 3)), (10, (.if_icmp .ge 22, 3)), (13, (.aload_n 0, 1)), (14, (.iload_n 1, 1)), (15, (.iload_n 2, 1)), (16, (.aload_n 0, 1)), (17, (.iload_n 1, 1)), (18, (.iload_n 2, 1)), (19, (.invokevirtual 67, 3)), (22, (.lneg, 1)), (23, (.invokevirtual 70, 3)), (26, (.iinc 2 1, 3)), (29, (.goto (-27), 3)), (32, (.return_, 1))] = true := zDs 0 (by decide +kernel)
theorem d_Sums_putNegative_0 : decode (zb m_Sums_putNegative) 0 = .ok (.iconst 0, 1) := zdal_p dlA_Sums_putNegative_151 (i := 0) rfl
theorem d_Sums_putNegative_1 : decode (zb m_Sums_putNegative) 1 = .ok (.istore_n 2, 1) := zdal_p dlA_Sums_putNegative_151 (i := 1) rfl
theorem d_Sums_putNegative_2 : decode (zb m_Sums_putNegative) 2 = .ok (.iload_n 2, 1) := zdal_p dlA_Sums_putNegative_151 (i := 2) rfl
theorem d_Sums_putNegative_3 : decode (zb m_Sums_putNegative) 3 = .ok (.aload_n 0, 1) := zdal_p dlA_Sums_putNegative_151 (i := 3) rfl
theorem d_Sums_putNegative_4 : decode (zb m_Sums_putNegative) 4 = .ok (.getfield 23, 3) := zdal_p dlA_Sums_putNegative_151 (i := 4) rfl
theorem d_Sums_putNegative_7 : decode (zb m_Sums_putNegative) 7 = .ok (.getfield 35, 3) := zdal_p dlA_Sums_putNegative_151 (i := 5) rfl
theorem d_Sums_putNegative_10 : decode (zb m_Sums_putNegative) 10 = .ok (.if_icmp .ge 22, 3) := zdal_p dlA_Sums_putNegative_151 (i := 6) rfl
theorem d_Sums_putNegative_13 : decode (zb m_Sums_putNegative) 13 = .ok (.aload_n 0, 1) := zdal_p dlA_Sums_putNegative_151 (i := 7) rfl
theorem d_Sums_putNegative_14 : decode (zb m_Sums_putNegative) 14 = .ok (.iload_n 1, 1) := zdal_p dlA_Sums_putNegative_151 (i := 8) rfl
theorem d_Sums_putNegative_15 : decode (zb m_Sums_putNegative) 15 = .ok (.iload_n 2, 1) := zdal_p dlA_Sums_putNegative_151 (i := 9) rfl
theorem d_Sums_putNegative_16 : decode (zb m_Sums_putNegative) 16 = .ok (.aload_n 0, 1) := zdal_p dlA_Sums_putNegative_151 (i := 10) rfl
theorem d_Sums_putNegative_17 : decode (zb m_Sums_putNegative) 17 = .ok (.iload_n 1, 1) := zdal_p dlA_Sums_putNegative_151 (i := 11) rfl
theorem d_Sums_putNegative_18 : decode (zb m_Sums_putNegative) 18 = .ok (.iload_n 2, 1) := zdal_p dlA_Sums_putNegative_151 (i := 12) rfl
theorem d_Sums_putNegative_19 : decode (zb m_Sums_putNegative) 19 = .ok (.invokevirtual 67, 3) := zdal_p dlA_Sums_putNegative_151 (i := 13) rfl
theorem d_Sums_putNegative_22 : decode (zb m_Sums_putNegative) 22 = .ok (.lneg, 1) := zdal_p dlA_Sums_putNegative_151 (i := 14) rfl
theorem d_Sums_putNegative_23 : decode (zb m_Sums_putNegative) 23 = .ok (.invokevirtual 70, 3) := zdal_p dlA_Sums_putNegative_151 (i := 15) rfl
theorem d_Sums_putNegative_26 : decode (zb m_Sums_putNegative) 26 = .ok (.iinc 2 1, 3) := zdal_p dlA_Sums_putNegative_151 (i := 16) rfl
theorem d_Sums_putNegative_29 : decode (zb m_Sums_putNegative) 29 = .ok (.goto (-27), 3) := zdal_p dlA_Sums_putNegative_151 (i := 17) rfl
theorem d_Sums_putNegative_32 : decode (zb m_Sums_putNegative) 32 = .ok (.return_, 1) := zdal_p dlA_Sums_putNegative_151 (i := 18) rfl
theorem dlA_Sums_putNumber_152 : zdal (zb m_Sums_putNumber) [(0, (.aload_n 0, 1)), (1, (.getfield 16, 3)), (4, (.iload_n 1, 1)), (5, (.bipush 27, 2)), (7, (.imul, 1)), (8, (.iload_n 2, 1)), (9, (.iadd, 1)), (10, (.lload_n 3, 1)), (11, (.invokevirtual 31, 3)), (14, (.return_, 1))] = true := zDs 0 (by decide +kernel)
theorem d_Sums_putNumber_0 : decode (zb m_Sums_putNumber) 0 = .ok (.aload_n 0, 1) := zdal_p dlA_Sums_putNumber_152 (i := 0) rfl
theorem d_Sums_putNumber_1 : decode (zb m_Sums_putNumber) 1 = .ok (.getfield 16, 3) := zdal_p dlA_Sums_putNumber_152 (i := 1) rfl
theorem d_Sums_putNumber_4 : decode (zb m_Sums_putNumber) 4 = .ok (.iload_n 1, 1) := zdal_p dlA_Sums_putNumber_152 (i := 2) rfl
theorem d_Sums_putNumber_5 : decode (zb m_Sums_putNumber) 5 = .ok (.bipush 27, 2) := zdal_p dlA_Sums_putNumber_152 (i := 3) rfl
theorem d_Sums_putNumber_7 : decode (zb m_Sums_putNumber) 7 = .ok (.imul, 1) := zdal_p dlA_Sums_putNumber_152 (i := 4) rfl
theorem d_Sums_putNumber_8 : decode (zb m_Sums_putNumber) 8 = .ok (.iload_n 2, 1) := zdal_p dlA_Sums_putNumber_152 (i := 5) rfl
theorem d_Sums_putNumber_9 : decode (zb m_Sums_putNumber) 9 = .ok (.iadd, 1) := zdal_p dlA_Sums_putNumber_152 (i := 6) rfl
theorem d_Sums_putNumber_10 : decode (zb m_Sums_putNumber) 10 = .ok (.lload_n 3, 1) := zdal_p dlA_Sums_putNumber_152 (i := 7) rfl
theorem d_Sums_putNumber_11 : decode (zb m_Sums_putNumber) 11 = .ok (.invokevirtual 31, 3) := zdal_p dlA_Sums_putNumber_152 (i := 8) rfl
theorem d_Sums_putNumber_14 : decode (zb m_Sums_putNumber) 14 = .ok (.return_, 1) := zdal_p dlA_Sums_putNumber_152 (i := 9) rfl
theorem dlA_Calc_reckon_153 : zdal (zb m_Calc_reckon) [(0, (.aload_n 0, 1)), (1, (.getfield 24, 3)), (4, (.ifCond .le 143, 3)), (7, (.aload_n 0, 1)), (8, (.getfield 28, 3)), (11, (.iconst 1, 1)), (12, (.if_icmp .le 135, 3)), (15, (.aload_n 0, 1)), (16, (.invokevirtual 89, 3)), (19, (.bipush 40, 2)), (21, (.if_icmp .eq 126, 3)), (24, (.aload_n 0, 1)), (25, (.invokevirtual 89, 3)), (28, (.bipush 42, 2)), (30, (.if_icmp .eq 7, 3)), (33, (.iload_n 1, 1)), (34, (.ifCond .ne 113, 3)), (37, (.aload_n 0, 1)), (38, (.invokevirtual 89, 3)), (41, (.istore_n 2, 1)), (42, (.aload_n 0, 1)), (43, (.invokevirtual 43, 3)), (46, (.istore_n 3, 1)), (47, (.aload_n 0, 1))] = true := zDs 0 (by decide +kernel)
theorem d_Calc_reckon_0 : decode (zb m_Calc_reckon) 0 = .ok (.aload_n 0, 1) := zdal_p dlA_Calc_reckon_153 (i := 0) rfl
theorem d_Calc_reckon_1 : decode (zb m_Calc_reckon) 1 = .ok (.getfield 24, 3) := zdal_p dlA_Calc_reckon_153 (i := 1) rfl
theorem d_Calc_reckon_4 : decode (zb m_Calc_reckon) 4 = .ok (.ifCond .le 143, 3) := zdal_p dlA_Calc_reckon_153 (i := 2) rfl
theorem d_Calc_reckon_7 : decode (zb m_Calc_reckon) 7 = .ok (.aload_n 0, 1) := zdal_p dlA_Calc_reckon_153 (i := 3) rfl
theorem d_Calc_reckon_8 : decode (zb m_Calc_reckon) 8 = .ok (.getfield 28, 3) := zdal_p dlA_Calc_reckon_153 (i := 4) rfl
theorem d_Calc_reckon_11 : decode (zb m_Calc_reckon) 11 = .ok (.iconst 1, 1) := zdal_p dlA_Calc_reckon_153 (i := 5) rfl
theorem d_Calc_reckon_12 : decode (zb m_Calc_reckon) 12 = .ok (.if_icmp .le 135, 3) := zdal_p dlA_Calc_reckon_153 (i := 6) rfl
theorem d_Calc_reckon_15 : decode (zb m_Calc_reckon) 15 = .ok (.aload_n 0, 1) := zdal_p dlA_Calc_reckon_153 (i := 7) rfl
theorem d_Calc_reckon_16 : decode (zb m_Calc_reckon) 16 = .ok (.invokevirtual 89, 3) := zdal_p dlA_Calc_reckon_153 (i := 8) rfl
theorem d_Calc_reckon_19 : decode (zb m_Calc_reckon) 19 = .ok (.bipush 40, 2) := zdal_p dlA_Calc_reckon_153 (i := 9) rfl
theorem d_Calc_reckon_21 : decode (zb m_Calc_reckon) 21 = .ok (.if_icmp .eq 126, 3) := zdal_p dlA_Calc_reckon_153 (i := 10) rfl
theorem d_Calc_reckon_24 : decode (zb m_Calc_reckon) 24 = .ok (.aload_n 0, 1) := zdal_p dlA_Calc_reckon_153 (i := 11) rfl
theorem d_Calc_reckon_25 : decode (zb m_Calc_reckon) 25 = .ok (.invokevirtual 89, 3) := zdal_p dlA_Calc_reckon_153 (i := 12) rfl
theorem d_Calc_reckon_28 : decode (zb m_Calc_reckon) 28 = .ok (.bipush 42, 2) := zdal_p dlA_Calc_reckon_153 (i := 13) rfl
theorem d_Calc_reckon_30 : decode (zb m_Calc_reckon) 30 = .ok (.if_icmp .eq 7, 3) := zdal_p dlA_Calc_reckon_153 (i := 14) rfl
theorem d_Calc_reckon_33 : decode (zb m_Calc_reckon) 33 = .ok (.iload_n 1, 1) := zdal_p dlA_Calc_reckon_153 (i := 15) rfl
theorem d_Calc_reckon_34 : decode (zb m_Calc_reckon) 34 = .ok (.ifCond .ne 113, 3) := zdal_p dlA_Calc_reckon_153 (i := 16) rfl
theorem d_Calc_reckon_37 : decode (zb m_Calc_reckon) 37 = .ok (.aload_n 0, 1) := zdal_p dlA_Calc_reckon_153 (i := 17) rfl
theorem d_Calc_reckon_38 : decode (zb m_Calc_reckon) 38 = .ok (.invokevirtual 89, 3) := zdal_p dlA_Calc_reckon_153 (i := 18) rfl
theorem d_Calc_reckon_41 : decode (zb m_Calc_reckon) 41 = .ok (.istore_n 2, 1) := zdal_p dlA_Calc_reckon_153 (i := 19) rfl
theorem d_Calc_reckon_42 : decode (zb m_Calc_reckon) 42 = .ok (.aload_n 0, 1) := zdal_p dlA_Calc_reckon_153 (i := 20) rfl
theorem d_Calc_reckon_43 : decode (zb m_Calc_reckon) 43 = .ok (.invokevirtual 43, 3) := zdal_p dlA_Calc_reckon_153 (i := 21) rfl
theorem d_Calc_reckon_46 : decode (zb m_Calc_reckon) 46 = .ok (.istore_n 3, 1) := zdal_p dlA_Calc_reckon_153 (i := 22) rfl
theorem d_Calc_reckon_47 : decode (zb m_Calc_reckon) 47 = .ok (.aload_n 0, 1) := zdal_p dlA_Calc_reckon_153 (i := 23) rfl
theorem dlA_Calc_reckon_154 : zdal (zb m_Calc_reckon) [(48, (.dup, 1)), (49, (.getfield 24, 3)), (52, (.iconst 1, 1)), (53, (.isub, 1)), (54, (.putfield 24, 3)), (57, (.aload_n 0, 1)), (58, (.dup, 1)), (59, (.getfield 28, 3)), (62, (.iconst 1, 1)), (63, (.isub, 1)), (64, (.putfield 28, 3)), (67, (.iconst 1, 1)), (68, (.istore 4, 2)), (70, (.iload_n 2, 1)), (71, (.bipush 42, 2)), (73, (.if_icmp .ne 20, 3)), (76, (.aload_n 0, 1)), (77, (.getfield 20, 3)), (80, (.aload_n 0, 1)), (81, (.invokevirtual 43, 3)), (84, (.iload_n 3, 1)), (85, (.invokevirtual 77, 3)), (88, (.istore 4, 2)), (90, (.goto 26, 3))] = true := zDs 48 (by decide +kernel)
theorem d_Calc_reckon_48 : decode (zb m_Calc_reckon) 48 = .ok (.dup, 1) := zdal_p dlA_Calc_reckon_154 (i := 0) rfl
theorem d_Calc_reckon_49 : decode (zb m_Calc_reckon) 49 = .ok (.getfield 24, 3) := zdal_p dlA_Calc_reckon_154 (i := 1) rfl
theorem d_Calc_reckon_52 : decode (zb m_Calc_reckon) 52 = .ok (.iconst 1, 1) := zdal_p dlA_Calc_reckon_154 (i := 2) rfl
theorem d_Calc_reckon_53 : decode (zb m_Calc_reckon) 53 = .ok (.isub, 1) := zdal_p dlA_Calc_reckon_154 (i := 3) rfl
theorem d_Calc_reckon_54 : decode (zb m_Calc_reckon) 54 = .ok (.putfield 24, 3) := zdal_p dlA_Calc_reckon_154 (i := 4) rfl
theorem d_Calc_reckon_57 : decode (zb m_Calc_reckon) 57 = .ok (.aload_n 0, 1) := zdal_p dlA_Calc_reckon_154 (i := 5) rfl
theorem d_Calc_reckon_58 : decode (zb m_Calc_reckon) 58 = .ok (.dup, 1) := zdal_p dlA_Calc_reckon_154 (i := 6) rfl
theorem d_Calc_reckon_59 : decode (zb m_Calc_reckon) 59 = .ok (.getfield 28, 3) := zdal_p dlA_Calc_reckon_154 (i := 7) rfl
theorem d_Calc_reckon_62 : decode (zb m_Calc_reckon) 62 = .ok (.iconst 1, 1) := zdal_p dlA_Calc_reckon_154 (i := 8) rfl
theorem d_Calc_reckon_63 : decode (zb m_Calc_reckon) 63 = .ok (.isub, 1) := zdal_p dlA_Calc_reckon_154 (i := 9) rfl
theorem d_Calc_reckon_64 : decode (zb m_Calc_reckon) 64 = .ok (.putfield 28, 3) := zdal_p dlA_Calc_reckon_154 (i := 10) rfl
theorem d_Calc_reckon_67 : decode (zb m_Calc_reckon) 67 = .ok (.iconst 1, 1) := zdal_p dlA_Calc_reckon_154 (i := 11) rfl
theorem d_Calc_reckon_68 : decode (zb m_Calc_reckon) 68 = .ok (.istore 4, 2) := zdal_p dlA_Calc_reckon_154 (i := 12) rfl
theorem d_Calc_reckon_70 : decode (zb m_Calc_reckon) 70 = .ok (.iload_n 2, 1) := zdal_p dlA_Calc_reckon_154 (i := 13) rfl
theorem d_Calc_reckon_71 : decode (zb m_Calc_reckon) 71 = .ok (.bipush 42, 2) := zdal_p dlA_Calc_reckon_154 (i := 14) rfl
theorem d_Calc_reckon_73 : decode (zb m_Calc_reckon) 73 = .ok (.if_icmp .ne 20, 3) := zdal_p dlA_Calc_reckon_154 (i := 15) rfl
theorem d_Calc_reckon_76 : decode (zb m_Calc_reckon) 76 = .ok (.aload_n 0, 1) := zdal_p dlA_Calc_reckon_154 (i := 16) rfl
theorem d_Calc_reckon_77 : decode (zb m_Calc_reckon) 77 = .ok (.getfield 20, 3) := zdal_p dlA_Calc_reckon_154 (i := 17) rfl
theorem d_Calc_reckon_80 : decode (zb m_Calc_reckon) 80 = .ok (.aload_n 0, 1) := zdal_p dlA_Calc_reckon_154 (i := 18) rfl
theorem d_Calc_reckon_81 : decode (zb m_Calc_reckon) 81 = .ok (.invokevirtual 43, 3) := zdal_p dlA_Calc_reckon_154 (i := 19) rfl
theorem d_Calc_reckon_84 : decode (zb m_Calc_reckon) 84 = .ok (.iload_n 3, 1) := zdal_p dlA_Calc_reckon_154 (i := 20) rfl
theorem d_Calc_reckon_85 : decode (zb m_Calc_reckon) 85 = .ok (.invokevirtual 77, 3) := zdal_p dlA_Calc_reckon_154 (i := 21) rfl
theorem d_Calc_reckon_88 : decode (zb m_Calc_reckon) 88 = .ok (.istore 4, 2) := zdal_p dlA_Calc_reckon_154 (i := 22) rfl
theorem d_Calc_reckon_90 : decode (zb m_Calc_reckon) 90 = .ok (.goto 26, 3) := zdal_p dlA_Calc_reckon_154 (i := 23) rfl
theorem dlA_Calc_reckon_155 : zdal (zb m_Calc_reckon) [(93, (.aload_n 0, 1)), (94, (.getfield 20, 3)), (97, (.aload_n 0, 1)), (98, (.invokevirtual 43, 3)), (101, (.iload_n 3, 1)), (102, (.iload_n 2, 1)), (103, (.bipush 43, 2)), (105, (.if_icmp .ne 7, 3)), (108, (.iconst 1, 1)), (109, (.goto 4, 3)), (112, (.iconst (-1), 1)), (113, (.invokevirtual 98, 3)), (116, (.aload_n 0, 1)), (117, (.iload 4, 2)), (119, (.ifCond .eq 21, 3)), (122, (.aload_n 0, 1)), (123, (.getfield 20, 3)), (126, (.aload_n 0, 1)), (127, (.invokevirtual 43, 3)), (130, (.invokevirtual 81, 3)), (133, (.ifCond .eq 7, 3)), (136, (.iconst 1, 1)), (137, (.goto 4, 3)), (140, (.iconst 0, 1))] = true := zDs 93 (by decide +kernel)
theorem d_Calc_reckon_93 : decode (zb m_Calc_reckon) 93 = .ok (.aload_n 0, 1) := zdal_p dlA_Calc_reckon_155 (i := 0) rfl
theorem d_Calc_reckon_94 : decode (zb m_Calc_reckon) 94 = .ok (.getfield 20, 3) := zdal_p dlA_Calc_reckon_155 (i := 1) rfl
theorem d_Calc_reckon_97 : decode (zb m_Calc_reckon) 97 = .ok (.aload_n 0, 1) := zdal_p dlA_Calc_reckon_155 (i := 2) rfl
theorem d_Calc_reckon_98 : decode (zb m_Calc_reckon) 98 = .ok (.invokevirtual 43, 3) := zdal_p dlA_Calc_reckon_155 (i := 3) rfl
theorem d_Calc_reckon_101 : decode (zb m_Calc_reckon) 101 = .ok (.iload_n 3, 1) := zdal_p dlA_Calc_reckon_155 (i := 4) rfl
theorem d_Calc_reckon_102 : decode (zb m_Calc_reckon) 102 = .ok (.iload_n 2, 1) := zdal_p dlA_Calc_reckon_155 (i := 5) rfl
theorem d_Calc_reckon_103 : decode (zb m_Calc_reckon) 103 = .ok (.bipush 43, 2) := zdal_p dlA_Calc_reckon_155 (i := 6) rfl
theorem d_Calc_reckon_105 : decode (zb m_Calc_reckon) 105 = .ok (.if_icmp .ne 7, 3) := zdal_p dlA_Calc_reckon_155 (i := 7) rfl
theorem d_Calc_reckon_108 : decode (zb m_Calc_reckon) 108 = .ok (.iconst 1, 1) := zdal_p dlA_Calc_reckon_155 (i := 8) rfl
theorem d_Calc_reckon_109 : decode (zb m_Calc_reckon) 109 = .ok (.goto 4, 3) := zdal_p dlA_Calc_reckon_155 (i := 9) rfl
theorem d_Calc_reckon_112 : decode (zb m_Calc_reckon) 112 = .ok (.iconst (-1), 1) := zdal_p dlA_Calc_reckon_155 (i := 10) rfl
theorem d_Calc_reckon_113 : decode (zb m_Calc_reckon) 113 = .ok (.invokevirtual 98, 3) := zdal_p dlA_Calc_reckon_155 (i := 11) rfl
theorem d_Calc_reckon_116 : decode (zb m_Calc_reckon) 116 = .ok (.aload_n 0, 1) := zdal_p dlA_Calc_reckon_155 (i := 12) rfl
theorem d_Calc_reckon_117 : decode (zb m_Calc_reckon) 117 = .ok (.iload 4, 2) := zdal_p dlA_Calc_reckon_155 (i := 13) rfl
theorem d_Calc_reckon_119 : decode (zb m_Calc_reckon) 119 = .ok (.ifCond .eq 21, 3) := zdal_p dlA_Calc_reckon_155 (i := 14) rfl
theorem d_Calc_reckon_122 : decode (zb m_Calc_reckon) 122 = .ok (.aload_n 0, 1) := zdal_p dlA_Calc_reckon_155 (i := 15) rfl
theorem d_Calc_reckon_123 : decode (zb m_Calc_reckon) 123 = .ok (.getfield 20, 3) := zdal_p dlA_Calc_reckon_155 (i := 16) rfl
theorem d_Calc_reckon_126 : decode (zb m_Calc_reckon) 126 = .ok (.aload_n 0, 1) := zdal_p dlA_Calc_reckon_155 (i := 17) rfl
theorem d_Calc_reckon_127 : decode (zb m_Calc_reckon) 127 = .ok (.invokevirtual 43, 3) := zdal_p dlA_Calc_reckon_155 (i := 18) rfl
theorem d_Calc_reckon_130 : decode (zb m_Calc_reckon) 130 = .ok (.invokevirtual 81, 3) := zdal_p dlA_Calc_reckon_155 (i := 19) rfl
theorem d_Calc_reckon_133 : decode (zb m_Calc_reckon) 133 = .ok (.ifCond .eq 7, 3) := zdal_p dlA_Calc_reckon_155 (i := 20) rfl
theorem d_Calc_reckon_136 : decode (zb m_Calc_reckon) 136 = .ok (.iconst 1, 1) := zdal_p dlA_Calc_reckon_155 (i := 21) rfl
theorem d_Calc_reckon_137 : decode (zb m_Calc_reckon) 137 = .ok (.goto 4, 3) := zdal_p dlA_Calc_reckon_155 (i := 22) rfl
theorem d_Calc_reckon_140 : decode (zb m_Calc_reckon) 140 = .ok (.iconst 0, 1) := zdal_p dlA_Calc_reckon_155 (i := 23) rfl
theorem dlA_Calc_reckon_156 : zdal (zb m_Calc_reckon) [(141, (.invokevirtual 85, 3)), (144, (.goto (-144), 3)), (147, (.return_, 1))] = true := zDs 141 (by decide +kernel)
theorem d_Calc_reckon_141 : decode (zb m_Calc_reckon) 141 = .ok (.invokevirtual 85, 3) := zdal_p dlA_Calc_reckon_156 (i := 0) rfl
theorem d_Calc_reckon_144 : decode (zb m_Calc_reckon) 144 = .ok (.goto (-144), 3) := zdal_p dlA_Calc_reckon_156 (i := 1) rfl
theorem d_Calc_reckon_147 : decode (zb m_Calc_reckon) 147 = .ok (.return_, 1) := zdal_p dlA_Calc_reckon_156 (i := 2) rfl
theorem dlA_Sums_add_157 : zdal (zb m_Sums_add) [(0, (.iconst 0, 1)), (1, (.istore 4, 2)), (3, (.iload 4, 2)), (5, (.aload_n 0, 1)), (6, (.getfield 23, 3)), (9, (.getfield 35, 3)), (12, (.if_icmp .ge 34, 3)), (15, (.aload_n 0, 1)), (16, (.iload_n 1, 1)), (17, (.iload 4, 2)), (19, (.aload_n 0, 1)), (20, (.iload_n 1, 1)), (21, (.iload 4, 2)), (23, (.invokevirtual 67, 3)), (26, (.iload_n 3, 1)), (27, (.i2l, 1)), (28, (.aload_n 0, 1)), (29, (.iload_n 2, 1)), (30, (.iload 4, 2)), (32, (.invokevirtual 67, 3)), (35, (.lmul, 1)), (36, (.ladd, 1)), (37, (.invokevirtual 70, 3)), (40, (.iinc 4 1, 3))] = true := zDs 0 (by decide +kernel)
theorem d_Sums_add_0 : decode (zb m_Sums_add) 0 = .ok (.iconst 0, 1) := zdal_p dlA_Sums_add_157 (i := 0) rfl
theorem d_Sums_add_1 : decode (zb m_Sums_add) 1 = .ok (.istore 4, 2) := zdal_p dlA_Sums_add_157 (i := 1) rfl
theorem d_Sums_add_3 : decode (zb m_Sums_add) 3 = .ok (.iload 4, 2) := zdal_p dlA_Sums_add_157 (i := 2) rfl
theorem d_Sums_add_5 : decode (zb m_Sums_add) 5 = .ok (.aload_n 0, 1) := zdal_p dlA_Sums_add_157 (i := 3) rfl
theorem d_Sums_add_6 : decode (zb m_Sums_add) 6 = .ok (.getfield 23, 3) := zdal_p dlA_Sums_add_157 (i := 4) rfl
theorem d_Sums_add_9 : decode (zb m_Sums_add) 9 = .ok (.getfield 35, 3) := zdal_p dlA_Sums_add_157 (i := 5) rfl
theorem d_Sums_add_12 : decode (zb m_Sums_add) 12 = .ok (.if_icmp .ge 34, 3) := zdal_p dlA_Sums_add_157 (i := 6) rfl
theorem d_Sums_add_15 : decode (zb m_Sums_add) 15 = .ok (.aload_n 0, 1) := zdal_p dlA_Sums_add_157 (i := 7) rfl
theorem d_Sums_add_16 : decode (zb m_Sums_add) 16 = .ok (.iload_n 1, 1) := zdal_p dlA_Sums_add_157 (i := 8) rfl
theorem d_Sums_add_17 : decode (zb m_Sums_add) 17 = .ok (.iload 4, 2) := zdal_p dlA_Sums_add_157 (i := 9) rfl
theorem d_Sums_add_19 : decode (zb m_Sums_add) 19 = .ok (.aload_n 0, 1) := zdal_p dlA_Sums_add_157 (i := 10) rfl
theorem d_Sums_add_20 : decode (zb m_Sums_add) 20 = .ok (.iload_n 1, 1) := zdal_p dlA_Sums_add_157 (i := 11) rfl
theorem d_Sums_add_21 : decode (zb m_Sums_add) 21 = .ok (.iload 4, 2) := zdal_p dlA_Sums_add_157 (i := 12) rfl
theorem d_Sums_add_23 : decode (zb m_Sums_add) 23 = .ok (.invokevirtual 67, 3) := zdal_p dlA_Sums_add_157 (i := 13) rfl
theorem d_Sums_add_26 : decode (zb m_Sums_add) 26 = .ok (.iload_n 3, 1) := zdal_p dlA_Sums_add_157 (i := 14) rfl
theorem d_Sums_add_27 : decode (zb m_Sums_add) 27 = .ok (.i2l, 1) := zdal_p dlA_Sums_add_157 (i := 15) rfl
theorem d_Sums_add_28 : decode (zb m_Sums_add) 28 = .ok (.aload_n 0, 1) := zdal_p dlA_Sums_add_157 (i := 16) rfl
theorem d_Sums_add_29 : decode (zb m_Sums_add) 29 = .ok (.iload_n 2, 1) := zdal_p dlA_Sums_add_157 (i := 17) rfl
theorem d_Sums_add_30 : decode (zb m_Sums_add) 30 = .ok (.iload 4, 2) := zdal_p dlA_Sums_add_157 (i := 18) rfl
theorem d_Sums_add_32 : decode (zb m_Sums_add) 32 = .ok (.invokevirtual 67, 3) := zdal_p dlA_Sums_add_157 (i := 19) rfl
theorem d_Sums_add_35 : decode (zb m_Sums_add) 35 = .ok (.lmul, 1) := zdal_p dlA_Sums_add_157 (i := 20) rfl
theorem d_Sums_add_36 : decode (zb m_Sums_add) 36 = .ok (.ladd, 1) := zdal_p dlA_Sums_add_157 (i := 21) rfl
theorem d_Sums_add_37 : decode (zb m_Sums_add) 37 = .ok (.invokevirtual 70, 3) := zdal_p dlA_Sums_add_157 (i := 22) rfl
theorem d_Sums_add_40 : decode (zb m_Sums_add) 40 = .ok (.iinc 4 1, 3) := zdal_p dlA_Sums_add_157 (i := 23) rfl
theorem dlA_Sums_add_158 : zdal (zb m_Sums_add) [(43, (.goto (-40), 3)), (46, (.return_, 1))] = true := zDs 43 (by decide +kernel)
theorem d_Sums_add_43 : decode (zb m_Sums_add) 43 = .ok (.goto (-40), 3) := zdal_p dlA_Sums_add_158 (i := 0) rfl
theorem d_Sums_add_46 : decode (zb m_Sums_add) 46 = .ok (.return_, 1) := zdal_p dlA_Sums_add_158 (i := 1) rfl
theorem dlA_Calc_close_159 : zdal (zb m_Calc_close) [(0, (.aload_n 0, 1)), (1, (.getfield 24, 3)), (4, (.ifCond .le 33, 3)), (7, (.aload_n 0, 1)), (8, (.dup, 1)), (9, (.getfield 24, 3)), (12, (.iconst 1, 1)), (13, (.isub, 1)), (14, (.putfield 24, 3)), (17, (.aload_n 0, 1)), (18, (.dup, 1)), (19, (.getfield 31, 3)), (22, (.iconst 1, 1)), (23, (.isub, 1)), (24, (.putfield 31, 3)), (27, (.aload_n 0, 1)), (28, (.dup, 1)), (29, (.getfield 34, 3)), (32, (.iconst 1, 1)), (33, (.isub, 1)), (34, (.putfield 34, 3)), (37, (.return_, 1))] = true := zDs 0 (by decide +kernel)
theorem d_Calc_close_0 : decode (zb m_Calc_close) 0 = .ok (.aload_n 0, 1) := zdal_p dlA_Calc_close_159 (i := 0) rfl
theorem d_Calc_close_1 : decode (zb m_Calc_close) 1 = .ok (.getfield 24, 3) := zdal_p dlA_Calc_close_159 (i := 1) rfl
theorem d_Calc_close_4 : decode (zb m_Calc_close) 4 = .ok (.ifCond .le 33, 3) := zdal_p dlA_Calc_close_159 (i := 2) rfl
theorem d_Calc_close_7 : decode (zb m_Calc_close) 7 = .ok (.aload_n 0, 1) := zdal_p dlA_Calc_close_159 (i := 3) rfl
theorem d_Calc_close_8 : decode (zb m_Calc_close) 8 = .ok (.dup, 1) := zdal_p dlA_Calc_close_159 (i := 4) rfl
theorem d_Calc_close_9 : decode (zb m_Calc_close) 9 = .ok (.getfield 24, 3) := zdal_p dlA_Calc_close_159 (i := 5) rfl
theorem d_Calc_close_12 : decode (zb m_Calc_close) 12 = .ok (.iconst 1, 1) := zdal_p dlA_Calc_close_159 (i := 6) rfl
theorem d_Calc_close_13 : decode (zb m_Calc_close) 13 = .ok (.isub, 1) := zdal_p dlA_Calc_close_159 (i := 7) rfl
theorem d_Calc_close_14 : decode (zb m_Calc_close) 14 = .ok (.putfield 24, 3) := zdal_p dlA_Calc_close_159 (i := 8) rfl
theorem d_Calc_close_17 : decode (zb m_Calc_close) 17 = .ok (.aload_n 0, 1) := zdal_p dlA_Calc_close_159 (i := 9) rfl
theorem d_Calc_close_18 : decode (zb m_Calc_close) 18 = .ok (.dup, 1) := zdal_p dlA_Calc_close_159 (i := 10) rfl
theorem d_Calc_close_19 : decode (zb m_Calc_close) 19 = .ok (.getfield 31, 3) := zdal_p dlA_Calc_close_159 (i := 11) rfl
theorem d_Calc_close_22 : decode (zb m_Calc_close) 22 = .ok (.iconst 1, 1) := zdal_p dlA_Calc_close_159 (i := 12) rfl
theorem d_Calc_close_23 : decode (zb m_Calc_close) 23 = .ok (.isub, 1) := zdal_p dlA_Calc_close_159 (i := 13) rfl
theorem d_Calc_close_24 : decode (zb m_Calc_close) 24 = .ok (.putfield 31, 3) := zdal_p dlA_Calc_close_159 (i := 14) rfl
theorem d_Calc_close_27 : decode (zb m_Calc_close) 27 = .ok (.aload_n 0, 1) := zdal_p dlA_Calc_close_159 (i := 15) rfl
theorem d_Calc_close_28 : decode (zb m_Calc_close) 28 = .ok (.dup, 1) := zdal_p dlA_Calc_close_159 (i := 16) rfl
theorem d_Calc_close_29 : decode (zb m_Calc_close) 29 = .ok (.getfield 34, 3) := zdal_p dlA_Calc_close_159 (i := 17) rfl
theorem d_Calc_close_32 : decode (zb m_Calc_close) 32 = .ok (.iconst 1, 1) := zdal_p dlA_Calc_close_159 (i := 18) rfl
theorem d_Calc_close_33 : decode (zb m_Calc_close) 33 = .ok (.isub, 1) := zdal_p dlA_Calc_close_159 (i := 19) rfl
theorem d_Calc_close_34 : decode (zb m_Calc_close) 34 = .ok (.putfield 34, 3) := zdal_p dlA_Calc_close_159 (i := 20) rfl
theorem d_Calc_close_37 : decode (zb m_Calc_close) 37 = .ok (.return_, 1) := zdal_p dlA_Calc_close_159 (i := 21) rfl
theorem dlA_Calc_put_160 : zdal (zb m_Calc_put) [(0, (.aload_n 0, 1)), (1, (.iload_n 1, 1)), (2, (.bipush 42, 2)), (4, (.if_icmp .ne 7, 3)), (7, (.iconst 1, 1)), (8, (.goto 4, 3)), (11, (.iconst 0, 1)), (12, (.invokevirtual 95, 3)), (15, (.aload_n 0, 1)), (16, (.iload_n 1, 1)), (17, (.invokevirtual 55, 3)), (20, (.return_, 1))] = true := zDs 0 (by decide +kernel)
theorem d_Calc_put_0 : decode (zb m_Calc_put) 0 = .ok (.aload_n 0, 1) := zdal_p dlA_Calc_put_160 (i := 0) rfl
theorem d_Calc_put_1 : decode (zb m_Calc_put) 1 = .ok (.iload_n 1, 1) := zdal_p dlA_Calc_put_160 (i := 1) rfl
theorem d_Calc_put_2 : decode (zb m_Calc_put) 2 = .ok (.bipush 42, 2) := zdal_p dlA_Calc_put_160 (i := 2) rfl
theorem d_Calc_put_4 : decode (zb m_Calc_put) 4 = .ok (.if_icmp .ne 7, 3) := zdal_p dlA_Calc_put_160 (i := 3) rfl
theorem d_Calc_put_7 : decode (zb m_Calc_put) 7 = .ok (.iconst 1, 1) := zdal_p dlA_Calc_put_160 (i := 4) rfl
theorem d_Calc_put_8 : decode (zb m_Calc_put) 8 = .ok (.goto 4, 3) := zdal_p dlA_Calc_put_160 (i := 5) rfl
theorem d_Calc_put_11 : decode (zb m_Calc_put) 11 = .ok (.iconst 0, 1) := zdal_p dlA_Calc_put_160 (i := 6) rfl
theorem d_Calc_put_12 : decode (zb m_Calc_put) 12 = .ok (.invokevirtual 95, 3) := zdal_p dlA_Calc_put_160 (i := 7) rfl
theorem d_Calc_put_15 : decode (zb m_Calc_put) 15 = .ok (.aload_n 0, 1) := zdal_p dlA_Calc_put_160 (i := 8) rfl
theorem d_Calc_put_16 : decode (zb m_Calc_put) 16 = .ok (.iload_n 1, 1) := zdal_p dlA_Calc_put_160 (i := 9) rfl
theorem d_Calc_put_17 : decode (zb m_Calc_put) 17 = .ok (.invokevirtual 55, 3) := zdal_p dlA_Calc_put_160 (i := 10) rfl
theorem d_Calc_put_20 : decode (zb m_Calc_put) 20 = .ok (.return_, 1) := zdal_p dlA_Calc_put_160 (i := 11) rfl
theorem dlA_Troupe_addName_161 : zdal (zb m_Troupe_addName) [(0, (.aload_n 0, 1)), (1, (.getfield 64, 3)), (4, (.bipush 8, 2)), (6, (.if_icmp .ge 40, 3)), (9, (.aload_n 0, 1)), (10, (.getfield 57, 3)), (13, (.aload_n 0, 1)), (14, (.getfield 64, 3)), (17, (.iload_n 1, 1)), (18, (.invokevirtual 89, 3)), (21, (.aload_n 0, 1)), (22, (.getfield 32, 3)), (25, (.bipush 21, 2)), (27, (.iconst 1, 1)), (28, (.aload_n 0, 1)), (29, (.getfield 64, 3)), (32, (.iadd, 1)), (33, (.invokevirtual 93, 3)), (36, (.aload_n 0, 1)), (37, (.dup, 1)), (38, (.getfield 64, 3)), (41, (.iconst 1, 1)), (42, (.iadd, 1)), (43, (.putfield 64, 3))] = true := zDs 0 (by decide +kernel)
theorem d_Troupe_addName_0 : decode (zb m_Troupe_addName) 0 = .ok (.aload_n 0, 1) := zdal_p dlA_Troupe_addName_161 (i := 0) rfl
theorem d_Troupe_addName_1 : decode (zb m_Troupe_addName) 1 = .ok (.getfield 64, 3) := zdal_p dlA_Troupe_addName_161 (i := 1) rfl
theorem d_Troupe_addName_4 : decode (zb m_Troupe_addName) 4 = .ok (.bipush 8, 2) := zdal_p dlA_Troupe_addName_161 (i := 2) rfl
theorem d_Troupe_addName_6 : decode (zb m_Troupe_addName) 6 = .ok (.if_icmp .ge 40, 3) := zdal_p dlA_Troupe_addName_161 (i := 3) rfl
theorem d_Troupe_addName_9 : decode (zb m_Troupe_addName) 9 = .ok (.aload_n 0, 1) := zdal_p dlA_Troupe_addName_161 (i := 4) rfl
theorem d_Troupe_addName_10 : decode (zb m_Troupe_addName) 10 = .ok (.getfield 57, 3) := zdal_p dlA_Troupe_addName_161 (i := 5) rfl
theorem d_Troupe_addName_13 : decode (zb m_Troupe_addName) 13 = .ok (.aload_n 0, 1) := zdal_p dlA_Troupe_addName_161 (i := 6) rfl
theorem d_Troupe_addName_14 : decode (zb m_Troupe_addName) 14 = .ok (.getfield 64, 3) := zdal_p dlA_Troupe_addName_161 (i := 7) rfl
theorem d_Troupe_addName_17 : decode (zb m_Troupe_addName) 17 = .ok (.iload_n 1, 1) := zdal_p dlA_Troupe_addName_161 (i := 8) rfl
theorem d_Troupe_addName_18 : decode (zb m_Troupe_addName) 18 = .ok (.invokevirtual 89, 3) := zdal_p dlA_Troupe_addName_161 (i := 9) rfl
theorem d_Troupe_addName_21 : decode (zb m_Troupe_addName) 21 = .ok (.aload_n 0, 1) := zdal_p dlA_Troupe_addName_161 (i := 10) rfl
theorem d_Troupe_addName_22 : decode (zb m_Troupe_addName) 22 = .ok (.getfield 32, 3) := zdal_p dlA_Troupe_addName_161 (i := 11) rfl
theorem d_Troupe_addName_25 : decode (zb m_Troupe_addName) 25 = .ok (.bipush 21, 2) := zdal_p dlA_Troupe_addName_161 (i := 12) rfl
theorem d_Troupe_addName_27 : decode (zb m_Troupe_addName) 27 = .ok (.iconst 1, 1) := zdal_p dlA_Troupe_addName_161 (i := 13) rfl
theorem d_Troupe_addName_28 : decode (zb m_Troupe_addName) 28 = .ok (.aload_n 0, 1) := zdal_p dlA_Troupe_addName_161 (i := 14) rfl
theorem d_Troupe_addName_29 : decode (zb m_Troupe_addName) 29 = .ok (.getfield 64, 3) := zdal_p dlA_Troupe_addName_161 (i := 15) rfl
theorem d_Troupe_addName_32 : decode (zb m_Troupe_addName) 32 = .ok (.iadd, 1) := zdal_p dlA_Troupe_addName_161 (i := 16) rfl
theorem d_Troupe_addName_33 : decode (zb m_Troupe_addName) 33 = .ok (.invokevirtual 93, 3) := zdal_p dlA_Troupe_addName_161 (i := 17) rfl
theorem d_Troupe_addName_36 : decode (zb m_Troupe_addName) 36 = .ok (.aload_n 0, 1) := zdal_p dlA_Troupe_addName_161 (i := 18) rfl
theorem d_Troupe_addName_37 : decode (zb m_Troupe_addName) 37 = .ok (.dup, 1) := zdal_p dlA_Troupe_addName_161 (i := 19) rfl
theorem d_Troupe_addName_38 : decode (zb m_Troupe_addName) 38 = .ok (.getfield 64, 3) := zdal_p dlA_Troupe_addName_161 (i := 20) rfl
theorem d_Troupe_addName_41 : decode (zb m_Troupe_addName) 41 = .ok (.iconst 1, 1) := zdal_p dlA_Troupe_addName_161 (i := 21) rfl
theorem d_Troupe_addName_42 : decode (zb m_Troupe_addName) 42 = .ok (.iadd, 1) := zdal_p dlA_Troupe_addName_161 (i := 22) rfl
theorem d_Troupe_addName_43 : decode (zb m_Troupe_addName) 43 = .ok (.putfield 64, 3) := zdal_p dlA_Troupe_addName_161 (i := 23) rfl
theorem dlA_Troupe_addName_162 : zdal (zb m_Troupe_addName) [(46, (.return_, 1))] = true := zDs 46 (by decide +kernel)
theorem d_Troupe_addName_46 : decode (zb m_Troupe_addName) 46 = .ok (.return_, 1) := zdal_p dlA_Troupe_addName_162 (i := 0) rfl
theorem dlA_T_fault_163 : zdal (zb m_T_fault) [(0, (.iload_n 1, 1)), (1, (.ifCond .ne 11, 3)), (4, (.aload_n 0, 1)), (5, (.getfield 21, 3)), (8, (.getfield 70, 3)), (11, (.ireturn, 1)), (12, (.iload_n 1, 1)), (13, (.iconst 1, 1)), (14, (.if_icmp .ne 13, 3)), (17, (.aload_n 0, 1)), (18, (.getfield 21, 3)), (21, (.getfield 73, 3)), (24, (.goto 4, 3)), (27, (.iconst (-1), 1)), (28, (.ireturn, 1))] = true := zDs 0 (by decide +kernel)
theorem d_T_fault_0 : decode (zb m_T_fault) 0 = .ok (.iload_n 1, 1) := zdal_p dlA_T_fault_163 (i := 0) rfl
theorem d_T_fault_1 : decode (zb m_T_fault) 1 = .ok (.ifCond .ne 11, 3) := zdal_p dlA_T_fault_163 (i := 1) rfl
theorem d_T_fault_4 : decode (zb m_T_fault) 4 = .ok (.aload_n 0, 1) := zdal_p dlA_T_fault_163 (i := 2) rfl
theorem d_T_fault_5 : decode (zb m_T_fault) 5 = .ok (.getfield 21, 3) := zdal_p dlA_T_fault_163 (i := 3) rfl
theorem d_T_fault_8 : decode (zb m_T_fault) 8 = .ok (.getfield 70, 3) := zdal_p dlA_T_fault_163 (i := 4) rfl
theorem d_T_fault_11 : decode (zb m_T_fault) 11 = .ok (.ireturn, 1) := zdal_p dlA_T_fault_163 (i := 5) rfl
theorem d_T_fault_12 : decode (zb m_T_fault) 12 = .ok (.iload_n 1, 1) := zdal_p dlA_T_fault_163 (i := 6) rfl
theorem d_T_fault_13 : decode (zb m_T_fault) 13 = .ok (.iconst 1, 1) := zdal_p dlA_T_fault_163 (i := 7) rfl
theorem d_T_fault_14 : decode (zb m_T_fault) 14 = .ok (.if_icmp .ne 13, 3) := zdal_p dlA_T_fault_163 (i := 8) rfl
theorem d_T_fault_17 : decode (zb m_T_fault) 17 = .ok (.aload_n 0, 1) := zdal_p dlA_T_fault_163 (i := 9) rfl
theorem d_T_fault_18 : decode (zb m_T_fault) 18 = .ok (.getfield 21, 3) := zdal_p dlA_T_fault_163 (i := 10) rfl
theorem d_T_fault_21 : decode (zb m_T_fault) 21 = .ok (.getfield 73, 3) := zdal_p dlA_T_fault_163 (i := 11) rfl
theorem d_T_fault_24 : decode (zb m_T_fault) 24 = .ok (.goto 4, 3) := zdal_p dlA_T_fault_163 (i := 12) rfl
theorem d_T_fault_27 : decode (zb m_T_fault) 27 = .ok (.iconst (-1), 1) := zdal_p dlA_T_fault_163 (i := 13) rfl
theorem d_T_fault_28 : decode (zb m_T_fault) 28 = .ok (.ireturn, 1) := zdal_p dlA_T_fault_163 (i := 14) rfl
theorem dlA_T_about_164 : zdal (zb m_T_about) [(0, (.iload_n 1, 1)), (1, (.tableswitch 159 0 8 #[51, 62, 73, 81, 92, 103, 114, 143, 151], 51)), (52, (.aload_n 0, 1)), (53, (.getfield 28, 3)), (56, (.getfield 61, 3)), (59, (.getfield 76, 3)), (62, (.ireturn, 1)), (63, (.aload_n 0, 1)), (64, (.getfield 28, 3)), (67, (.getfield 61, 3)), (70, (.getfield 79, 3)), (73, (.ireturn, 1)), (74, (.aload_n 0, 1)), (75, (.getfield 28, 3)), (78, (.getfield 82, 3)), (81, (.ireturn, 1)), (82, (.aload_n 0, 1)), (83, (.getfield 28, 3)), (86, (.getfield 61, 3)), (89, (.getfield 65, 3)), (92, (.ireturn, 1)), (93, (.aload_n 0, 1)), (94, (.getfield 28, 3)), (97, (.getfield 85, 3))] = true := zDs 0 (by decide +kernel)
theorem d_T_about_0 : decode (zb m_T_about) 0 = .ok (.iload_n 1, 1) := zdal_p dlA_T_about_164 (i := 0) rfl
theorem d_T_about_1 : decode (zb m_T_about) 1 = .ok (.tableswitch 159 0 8 #[51, 62, 73, 81, 92, 103, 114, 143, 151], 51) := zdal_p dlA_T_about_164 (i := 1) rfl
theorem d_T_about_52 : decode (zb m_T_about) 52 = .ok (.aload_n 0, 1) := zdal_p dlA_T_about_164 (i := 2) rfl
theorem d_T_about_53 : decode (zb m_T_about) 53 = .ok (.getfield 28, 3) := zdal_p dlA_T_about_164 (i := 3) rfl
theorem d_T_about_56 : decode (zb m_T_about) 56 = .ok (.getfield 61, 3) := zdal_p dlA_T_about_164 (i := 4) rfl
theorem d_T_about_59 : decode (zb m_T_about) 59 = .ok (.getfield 76, 3) := zdal_p dlA_T_about_164 (i := 5) rfl
theorem d_T_about_62 : decode (zb m_T_about) 62 = .ok (.ireturn, 1) := zdal_p dlA_T_about_164 (i := 6) rfl
theorem d_T_about_63 : decode (zb m_T_about) 63 = .ok (.aload_n 0, 1) := zdal_p dlA_T_about_164 (i := 7) rfl
theorem d_T_about_64 : decode (zb m_T_about) 64 = .ok (.getfield 28, 3) := zdal_p dlA_T_about_164 (i := 8) rfl
theorem d_T_about_67 : decode (zb m_T_about) 67 = .ok (.getfield 61, 3) := zdal_p dlA_T_about_164 (i := 9) rfl
theorem d_T_about_70 : decode (zb m_T_about) 70 = .ok (.getfield 79, 3) := zdal_p dlA_T_about_164 (i := 10) rfl
theorem d_T_about_73 : decode (zb m_T_about) 73 = .ok (.ireturn, 1) := zdal_p dlA_T_about_164 (i := 11) rfl
theorem d_T_about_74 : decode (zb m_T_about) 74 = .ok (.aload_n 0, 1) := zdal_p dlA_T_about_164 (i := 12) rfl
theorem d_T_about_75 : decode (zb m_T_about) 75 = .ok (.getfield 28, 3) := zdal_p dlA_T_about_164 (i := 13) rfl
theorem d_T_about_78 : decode (zb m_T_about) 78 = .ok (.getfield 82, 3) := zdal_p dlA_T_about_164 (i := 14) rfl
theorem d_T_about_81 : decode (zb m_T_about) 81 = .ok (.ireturn, 1) := zdal_p dlA_T_about_164 (i := 15) rfl
theorem d_T_about_82 : decode (zb m_T_about) 82 = .ok (.aload_n 0, 1) := zdal_p dlA_T_about_164 (i := 16) rfl
theorem d_T_about_83 : decode (zb m_T_about) 83 = .ok (.getfield 28, 3) := zdal_p dlA_T_about_164 (i := 17) rfl
theorem d_T_about_86 : decode (zb m_T_about) 86 = .ok (.getfield 61, 3) := zdal_p dlA_T_about_164 (i := 18) rfl
theorem d_T_about_89 : decode (zb m_T_about) 89 = .ok (.getfield 65, 3) := zdal_p dlA_T_about_164 (i := 19) rfl
theorem d_T_about_92 : decode (zb m_T_about) 92 = .ok (.ireturn, 1) := zdal_p dlA_T_about_164 (i := 20) rfl
theorem d_T_about_93 : decode (zb m_T_about) 93 = .ok (.aload_n 0, 1) := zdal_p dlA_T_about_164 (i := 21) rfl
theorem d_T_about_94 : decode (zb m_T_about) 94 = .ok (.getfield 28, 3) := zdal_p dlA_T_about_164 (i := 22) rfl
theorem d_T_about_97 : decode (zb m_T_about) 97 = .ok (.getfield 85, 3) := zdal_p dlA_T_about_164 (i := 23) rfl
theorem dlA_T_about_165 : zdal (zb m_T_about) [(100, (.getfield 89, 3)), (103, (.ireturn, 1)), (104, (.aload_n 0, 1)), (105, (.getfield 28, 3)), (108, (.getfield 85, 3)), (111, (.getfield 94, 3)), (114, (.ireturn, 1)), (115, (.aload_n 0, 1)), (116, (.getfield 28, 3)), (119, (.getfield 61, 3)), (122, (.aload_n 0, 1)), (123, (.getfield 28, 3)), (126, (.getfield 61, 3)), (129, (.invokevirtual 97, 3)), (132, (.invokevirtual 101, 3)), (135, (.ifCond .eq 7, 3)), (138, (.iconst 1, 1)), (139, (.goto 4, 3)), (142, (.iconst 0, 1)), (143, (.ireturn, 1)), (144, (.aload_n 0, 1)), (145, (.getfield 28, 3)), (148, (.getfield 105, 3)), (151, (.ireturn, 1))] = true := zDs 100 (by decide +kernel)
theorem d_T_about_100 : decode (zb m_T_about) 100 = .ok (.getfield 89, 3) := zdal_p dlA_T_about_165 (i := 0) rfl
theorem d_T_about_103 : decode (zb m_T_about) 103 = .ok (.ireturn, 1) := zdal_p dlA_T_about_165 (i := 1) rfl
theorem d_T_about_104 : decode (zb m_T_about) 104 = .ok (.aload_n 0, 1) := zdal_p dlA_T_about_165 (i := 2) rfl
theorem d_T_about_105 : decode (zb m_T_about) 105 = .ok (.getfield 28, 3) := zdal_p dlA_T_about_165 (i := 3) rfl
theorem d_T_about_108 : decode (zb m_T_about) 108 = .ok (.getfield 85, 3) := zdal_p dlA_T_about_165 (i := 4) rfl
theorem d_T_about_111 : decode (zb m_T_about) 111 = .ok (.getfield 94, 3) := zdal_p dlA_T_about_165 (i := 5) rfl
theorem d_T_about_114 : decode (zb m_T_about) 114 = .ok (.ireturn, 1) := zdal_p dlA_T_about_165 (i := 6) rfl
theorem d_T_about_115 : decode (zb m_T_about) 115 = .ok (.aload_n 0, 1) := zdal_p dlA_T_about_165 (i := 7) rfl
theorem d_T_about_116 : decode (zb m_T_about) 116 = .ok (.getfield 28, 3) := zdal_p dlA_T_about_165 (i := 8) rfl
theorem d_T_about_119 : decode (zb m_T_about) 119 = .ok (.getfield 61, 3) := zdal_p dlA_T_about_165 (i := 9) rfl
theorem d_T_about_122 : decode (zb m_T_about) 122 = .ok (.aload_n 0, 1) := zdal_p dlA_T_about_165 (i := 10) rfl
theorem d_T_about_123 : decode (zb m_T_about) 123 = .ok (.getfield 28, 3) := zdal_p dlA_T_about_165 (i := 11) rfl
theorem d_T_about_126 : decode (zb m_T_about) 126 = .ok (.getfield 61, 3) := zdal_p dlA_T_about_165 (i := 12) rfl
theorem d_T_about_129 : decode (zb m_T_about) 129 = .ok (.invokevirtual 97, 3) := zdal_p dlA_T_about_165 (i := 13) rfl
theorem d_T_about_132 : decode (zb m_T_about) 132 = .ok (.invokevirtual 101, 3) := zdal_p dlA_T_about_165 (i := 14) rfl
theorem d_T_about_135 : decode (zb m_T_about) 135 = .ok (.ifCond .eq 7, 3) := zdal_p dlA_T_about_165 (i := 15) rfl
theorem d_T_about_138 : decode (zb m_T_about) 138 = .ok (.iconst 1, 1) := zdal_p dlA_T_about_165 (i := 16) rfl
theorem d_T_about_139 : decode (zb m_T_about) 139 = .ok (.goto 4, 3) := zdal_p dlA_T_about_165 (i := 17) rfl
theorem d_T_about_142 : decode (zb m_T_about) 142 = .ok (.iconst 0, 1) := zdal_p dlA_T_about_165 (i := 18) rfl
theorem d_T_about_143 : decode (zb m_T_about) 143 = .ok (.ireturn, 1) := zdal_p dlA_T_about_165 (i := 19) rfl
theorem d_T_about_144 : decode (zb m_T_about) 144 = .ok (.aload_n 0, 1) := zdal_p dlA_T_about_165 (i := 20) rfl
theorem d_T_about_145 : decode (zb m_T_about) 145 = .ok (.getfield 28, 3) := zdal_p dlA_T_about_165 (i := 21) rfl
theorem d_T_about_148 : decode (zb m_T_about) 148 = .ok (.getfield 105, 3) := zdal_p dlA_T_about_165 (i := 22) rfl
theorem d_T_about_151 : decode (zb m_T_about) 151 = .ok (.ireturn, 1) := zdal_p dlA_T_about_165 (i := 23) rfl
theorem dlA_T_about_166 : zdal (zb m_T_about) [(152, (.aload_n 0, 1)), (153, (.getfield 10, 3)), (156, (.getfield 42, 3)), (159, (.ireturn, 1)), (160, (.iconst (-1), 1)), (161, (.ireturn, 1))] = true := zDs 152 (by decide +kernel)
theorem d_T_about_152 : decode (zb m_T_about) 152 = .ok (.aload_n 0, 1) := zdal_p dlA_T_about_166 (i := 0) rfl
theorem d_T_about_153 : decode (zb m_T_about) 153 = .ok (.getfield 10, 3) := zdal_p dlA_T_about_166 (i := 1) rfl
theorem d_T_about_156 : decode (zb m_T_about) 156 = .ok (.getfield 42, 3) := zdal_p dlA_T_about_166 (i := 2) rfl
theorem d_T_about_159 : decode (zb m_T_about) 159 = .ok (.ireturn, 1) := zdal_p dlA_T_about_166 (i := 3) rfl
theorem d_T_about_160 : decode (zb m_T_about) 160 = .ok (.iconst (-1), 1) := zdal_p dlA_T_about_166 (i := 4) rfl
theorem d_T_about_161 : decode (zb m_T_about) 161 = .ok (.ireturn, 1) := zdal_p dlA_T_about_166 (i := 5) rfl
theorem dlA_Group_everyone_167 : zdal (zb m_Group_everyone) [(0, (.iconst 1, 1)), (1, (.aload_n 0, 1)), (2, (.getfield 39, 3)), (5, (.ishl, 1)), (6, (.iconst 1, 1)), (7, (.isub, 1)), (8, (.ireturn, 1))] = true := zDs 0 (by decide +kernel)
theorem d_Group_everyone_0 : decode (zb m_Group_everyone) 0 = .ok (.iconst 1, 1) := zdal_p dlA_Group_everyone_167 (i := 0) rfl
theorem d_Group_everyone_1 : decode (zb m_Group_everyone) 1 = .ok (.aload_n 0, 1) := zdal_p dlA_Group_everyone_167 (i := 1) rfl
theorem d_Group_everyone_2 : decode (zb m_Group_everyone) 2 = .ok (.getfield 39, 3) := zdal_p dlA_Group_everyone_167 (i := 2) rfl
theorem d_Group_everyone_5 : decode (zb m_Group_everyone) 5 = .ok (.ishl, 1) := zdal_p dlA_Group_everyone_167 (i := 3) rfl
theorem d_Group_everyone_6 : decode (zb m_Group_everyone) 6 = .ok (.iconst 1, 1) := zdal_p dlA_Group_everyone_167 (i := 4) rfl
theorem d_Group_everyone_7 : decode (zb m_Group_everyone) 7 = .ok (.isub, 1) := zdal_p dlA_Group_everyone_167 (i := 5) rfl
theorem d_Group_everyone_8 : decode (zb m_Group_everyone) 8 = .ok (.ireturn, 1) := zdal_p dlA_Group_everyone_167 (i := 6) rfl
