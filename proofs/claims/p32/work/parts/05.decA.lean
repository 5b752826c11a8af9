def zdal (b : ByteArray) : List (Nat × (Jvm.ClassFile.Instr × Nat)) → Bool
  | [] => true
  | e :: l => decide (decode b e.1 = .ok e.2) && zdal b l
theorem zdal_m {b : ByteArray} : ∀ {l : List (Nat × (Jvm.ClassFile.Instr × Nat))} {i : Nat} {e : Nat × (Jvm.ClassFile.Instr × Nat)}, zdal b l = true → l[i]? = some e → decode b e.1 = .ok e.2
  | [], i, e, _, he => by
    rw [List.getElem?_nil] at he
    cases he
  | x :: l, 0, e, h, he => by
    have he2 : some x = some e := he
    have h2 : (decide (decode b x.1 = .ok x.2) && zdal b l) = true := h
    rw [Bool.and_eq_true] at h2
    rw [← Option.some.inj he2]
    exact of_decide_eq_true h2.1
  | x :: l, i + 1, e, h, he => by
    have he2 : l[i]? = some e := he
    have h2 : (decide (decode b x.1 = .ok x.2) && zdal b l) = true := h
    rw [Bool.and_eq_true] at h2
    exact zdal_m h2.2 he2
theorem zdal_p {b : ByteArray} {l : List (Nat × (Jvm.ClassFile.Instr × Nat))} {i pc : Nat} {r : Jvm.ClassFile.Instr × Nat} (h : zdal b l = true) (he : l[i]? = some (pc, r)) : decode b pc = .ok r := zdal_m (e := (pc, r)) h he
def zDag (b c : ByteArray) (p : Nat) : Prop := ∀ i, i < c.size → ∃ (h1 : i < c.size) (h2 : p + i < b.size), b[p + i] = c[i]
def zDc {α : Type} (r r' : Jvm.ClassFile.Decoder α) : Prop := ∀ (b c : ByteArray) (p : Nat), zDag b c p → ∀ (q : Nat) (z : α × Nat), Jvm.ClassFile.Reader.runAt r c q = .ok z → Jvm.ClassFile.Reader.runAt r' b (p + q) = .ok (z.1, p + z.2)
theorem zDbo {α β : Type} {r : Jvm.ClassFile.Decoder α} {f : α → Jvm.ClassFile.Decoder β} {c : ByteArray} {q : Nat} {z : α × Nat} (h : Jvm.ClassFile.Reader.runAt r c q = .ok z) : Jvm.ClassFile.Reader.runAt (r >>= f) c q = Jvm.ClassFile.Reader.runAt (f z.1) c z.2 := by
  show Except.bind (Jvm.ClassFile.Reader.runAt r c q) _ = _
  rw [h]
  rfl
theorem zDbe {α β : Type} {r : Jvm.ClassFile.Decoder α} {f : α → Jvm.ClassFile.Decoder β} {c : ByteArray} {q : Nat} {e : Jvm.ClassFile.DecodeError} (h : Jvm.ClassFile.Reader.runAt r c q = .error e) : Jvm.ClassFile.Reader.runAt (r >>= f) c q = .error e := by
  show Except.bind (Jvm.ClassFile.Reader.runAt r c q) _ = _
  rw [h]
  rfl
theorem zDu1o {c : ByteArray} {q : Nat} (h : q < c.size) : Jvm.ClassFile.Reader.runAt (Jvm.ClassFile.Reader.u1 : Jvm.ClassFile.Decoder Nat) c q = .ok (c[q].toNat, q + 1) := by
  show (if h : q < c.size then (do set (q + 1); pure (c[q]'h).toNat : Jvm.ClassFile.Decoder Nat) else throw (Jvm.ClassFile.HasTruncated.truncated q)) c q = _
  rw [dif_pos h]
  rfl
theorem zDu1e {c : ByteArray} {q : Nat} (h : ¬ q < c.size) : Jvm.ClassFile.Reader.runAt (Jvm.ClassFile.Reader.u1 : Jvm.ClassFile.Decoder Nat) c q = .error (Jvm.ClassFile.HasTruncated.truncated q) := by
  show (if h : q < c.size then (do set (q + 1); pure (c[q]'h).toNat : Jvm.ClassFile.Decoder Nat) else throw (Jvm.ClassFile.HasTruncated.truncated q)) c q = _
  rw [dif_neg h]
  rfl
theorem zDc.pu {α : Type} (x : α) : zDc (pure x : Jvm.ClassFile.Decoder α) (pure x) := by
  intro b c p _ q z h
  have h2 : (Except.ok (x, q) : Except Jvm.ClassFile.DecodeError (α × Nat)) = .ok z := h
  injection h2 with h3
  rw [← h3]
  rfl
theorem zDc.bi {α β : Type} {r r' : Jvm.ClassFile.Decoder α} {f g : α → Jvm.ClassFile.Decoder β} (hr : zDc r r') (hf : ∀ x, zDc (f x) (g x)) : zDc (r >>= f) (r' >>= g) := by
  intro b c p ha q z h
  cases hz : Jvm.ClassFile.Reader.runAt r c q with
  | error e =>
    rw [zDbe hz] at h
    cases h
  | ok y =>
    rw [zDbo hz] at h
    rw [zDbo (hr b c p ha q y hz)]
    exact hf y.1 b c p ha y.2 z h
theorem zDc.u1 : zDc (Jvm.ClassFile.Reader.u1 : Jvm.ClassFile.Decoder Nat) Jvm.ClassFile.Reader.u1 := by
  intro b c p ha q z h
  by_cases hq : q < c.size
  · rw [zDu1o hq] at h
    injection h with h3
    obtain ⟨h1, h2, h4⟩ := ha q hq
    rw [zDu1o h2, ← h3, h4]
    rfl
  · rw [zDu1e hq] at h
    cases h
theorem zDc.mp {α β : Type} {r r' : Jvm.ClassFile.Decoder α} (g : α → β) (hr : zDc r r') : zDc (g <$> r) (g <$> r') := zDc.bi hr (fun x => zDc.pu (g x))
theorem zDc.u2 : zDc (Jvm.ClassFile.Reader.u2 : Jvm.ClassFile.Decoder Nat) Jvm.ClassFile.Reader.u2 := zDc.bi zDc.u1 (fun _ => zDc.bi zDc.u1 (fun _ => zDc.pu _))
theorem zDc.s1 : zDc (Jvm.ClassFile.Reader.s1 : Jvm.ClassFile.Decoder Int) Jvm.ClassFile.Reader.s1 := zDc.mp _ zDc.u1
theorem zDc.s2 : zDc (Jvm.ClassFile.Reader.s2 : Jvm.ClassFile.Decoder Int) Jvm.ClassFile.Reader.s2 := zDc.mp _ zDc.u2
noncomputable def zDWf : {F : Nat → Nat → Jvm.ClassFile.Decoder Jvm.ClassFile.Instr // ∀ pc, Jvm.ClassFile.Decoder.instr pc = (Jvm.ClassFile.Reader.u1 >>= F pc)} := ⟨_, fun _ => rfl⟩
def zDA (P : Nat → Prop) : List Nat → Prop
  | [] => True
  | x :: l => P x ∧ zDA P l
theorem zDA.m {P : Nat → Prop} : ∀ {l : List Nat} {x : Nat}, zDA P l → x ∈ l → P x
  | [], _, _, h => absurd h List.not_mem_nil
  | y :: l, x, h, hm => by
    rcases List.mem_cons.1 hm with he | he
    · rw [he]; exact h.1
    · exact zDA.m h.2 he
theorem zDo_2 (p : Nat) : zDc (zDWf.1 0 2) (zDWf.1 p 2) := zDc.pu _
theorem zDo_3 (p : Nat) : zDc (zDWf.1 0 3) (zDWf.1 p 3) := zDc.pu _
theorem zDo_4 (p : Nat) : zDc (zDWf.1 0 4) (zDWf.1 p 4) := zDc.pu _
theorem zDo_5 (p : Nat) : zDc (zDWf.1 0 5) (zDWf.1 p 5) := zDc.pu _
theorem zDo_6 (p : Nat) : zDc (zDWf.1 0 6) (zDWf.1 p 6) := zDc.pu _
theorem zDo_7 (p : Nat) : zDc (zDWf.1 0 7) (zDWf.1 p 7) := zDc.pu _
theorem zDo_8 (p : Nat) : zDc (zDWf.1 0 8) (zDWf.1 p 8) := zDc.pu _
theorem zDo_9 (p : Nat) : zDc (zDWf.1 0 9) (zDWf.1 p 9) := zDc.pu _
theorem zDo_10 (p : Nat) : zDc (zDWf.1 0 10) (zDWf.1 p 10) := zDc.pu _
theorem zDo_16 (p : Nat) : zDc (zDWf.1 0 16) (zDWf.1 p 16) := zDc.bi zDc.s1 (fun _ => zDc.pu _)
theorem zDo_17 (p : Nat) : zDc (zDWf.1 0 17) (zDWf.1 p 17) := zDc.bi zDc.s2 (fun _ => zDc.pu _)
theorem zDo_18 (p : Nat) : zDc (zDWf.1 0 18) (zDWf.1 p 18) := zDc.bi zDc.u1 (fun _ => zDc.pu _)
theorem zDo_19 (p : Nat) : zDc (zDWf.1 0 19) (zDWf.1 p 19) := zDc.bi zDc.u2 (fun _ => zDc.pu _)
theorem zDo_20 (p : Nat) : zDc (zDWf.1 0 20) (zDWf.1 p 20) := zDc.bi zDc.u2 (fun _ => zDc.pu _)
theorem zDo_21 (p : Nat) : zDc (zDWf.1 0 21) (zDWf.1 p 21) := zDc.bi zDc.u1 (fun _ => zDc.pu _)
theorem zDo_22 (p : Nat) : zDc (zDWf.1 0 22) (zDWf.1 p 22) := zDc.bi zDc.u1 (fun _ => zDc.pu _)
theorem zDo_25 (p : Nat) : zDc (zDWf.1 0 25) (zDWf.1 p 25) := zDc.bi zDc.u1 (fun _ => zDc.pu _)
theorem zDo_26 (p : Nat) : zDc (zDWf.1 0 26) (zDWf.1 p 26) := zDc.pu _
theorem zDo_27 (p : Nat) : zDc (zDWf.1 0 27) (zDWf.1 p 27) := zDc.pu _
theorem zDo_28 (p : Nat) : zDc (zDWf.1 0 28) (zDWf.1 p 28) := zDc.pu _
theorem zDo_29 (p : Nat) : zDc (zDWf.1 0 29) (zDWf.1 p 29) := zDc.pu _
theorem zDo_30 (p : Nat) : zDc (zDWf.1 0 30) (zDWf.1 p 30) := zDc.pu _
theorem zDo_31 (p : Nat) : zDc (zDWf.1 0 31) (zDWf.1 p 31) := zDc.pu _
theorem zDo_32 (p : Nat) : zDc (zDWf.1 0 32) (zDWf.1 p 32) := zDc.pu _
theorem zDo_33 (p : Nat) : zDc (zDWf.1 0 33) (zDWf.1 p 33) := zDc.pu _
theorem zDo_42 (p : Nat) : zDc (zDWf.1 0 42) (zDWf.1 p 42) := zDc.pu _
theorem zDo_43 (p : Nat) : zDc (zDWf.1 0 43) (zDWf.1 p 43) := zDc.pu _
theorem zDo_44 (p : Nat) : zDc (zDWf.1 0 44) (zDWf.1 p 44) := zDc.pu _
theorem zDo_45 (p : Nat) : zDc (zDWf.1 0 45) (zDWf.1 p 45) := zDc.pu _
theorem zDo_46 (p : Nat) : zDc (zDWf.1 0 46) (zDWf.1 p 46) := zDc.pu _
theorem zDo_47 (p : Nat) : zDc (zDWf.1 0 47) (zDWf.1 p 47) := zDc.pu _
theorem zDo_54 (p : Nat) : zDc (zDWf.1 0 54) (zDWf.1 p 54) := zDc.bi zDc.u1 (fun _ => zDc.pu _)
theorem zDo_55 (p : Nat) : zDc (zDWf.1 0 55) (zDWf.1 p 55) := zDc.bi zDc.u1 (fun _ => zDc.pu _)
theorem zDo_58 (p : Nat) : zDc (zDWf.1 0 58) (zDWf.1 p 58) := zDc.bi zDc.u1 (fun _ => zDc.pu _)
theorem zDo_59 (p : Nat) : zDc (zDWf.1 0 59) (zDWf.1 p 59) := zDc.pu _
theorem zDo_60 (p : Nat) : zDc (zDWf.1 0 60) (zDWf.1 p 60) := zDc.pu _
theorem zDo_61 (p : Nat) : zDc (zDWf.1 0 61) (zDWf.1 p 61) := zDc.pu _
theorem zDo_62 (p : Nat) : zDc (zDWf.1 0 62) (zDWf.1 p 62) := zDc.pu _
theorem zDo_63 (p : Nat) : zDc (zDWf.1 0 63) (zDWf.1 p 63) := zDc.pu _
theorem zDo_64 (p : Nat) : zDc (zDWf.1 0 64) (zDWf.1 p 64) := zDc.pu _
theorem zDo_65 (p : Nat) : zDc (zDWf.1 0 65) (zDWf.1 p 65) := zDc.pu _
theorem zDo_66 (p : Nat) : zDc (zDWf.1 0 66) (zDWf.1 p 66) := zDc.pu _
theorem zDo_75 (p : Nat) : zDc (zDWf.1 0 75) (zDWf.1 p 75) := zDc.pu _
theorem zDo_76 (p : Nat) : zDc (zDWf.1 0 76) (zDWf.1 p 76) := zDc.pu _
theorem zDo_77 (p : Nat) : zDc (zDWf.1 0 77) (zDWf.1 p 77) := zDc.pu _
theorem zDo_78 (p : Nat) : zDc (zDWf.1 0 78) (zDWf.1 p 78) := zDc.pu _
theorem zDo_79 (p : Nat) : zDc (zDWf.1 0 79) (zDWf.1 p 79) := zDc.pu _
theorem zDo_80 (p : Nat) : zDc (zDWf.1 0 80) (zDWf.1 p 80) := zDc.pu _
theorem zDo_83 (p : Nat) : zDc (zDWf.1 0 83) (zDWf.1 p 83) := zDc.pu _
theorem zDo_87 (p : Nat) : zDc (zDWf.1 0 87) (zDWf.1 p 87) := zDc.pu _
theorem zDo_88 (p : Nat) : zDc (zDWf.1 0 88) (zDWf.1 p 88) := zDc.pu _
theorem zDo_89 (p : Nat) : zDc (zDWf.1 0 89) (zDWf.1 p 89) := zDc.pu _
theorem zDo_92 (p : Nat) : zDc (zDWf.1 0 92) (zDWf.1 p 92) := zDc.pu _
theorem zDo_96 (p : Nat) : zDc (zDWf.1 0 96) (zDWf.1 p 96) := zDc.pu _
theorem zDo_97 (p : Nat) : zDc (zDWf.1 0 97) (zDWf.1 p 97) := zDc.pu _
theorem zDo_100 (p : Nat) : zDc (zDWf.1 0 100) (zDWf.1 p 100) := zDc.pu _
theorem zDo_101 (p : Nat) : zDc (zDWf.1 0 101) (zDWf.1 p 101) := zDc.pu _
theorem zDo_104 (p : Nat) : zDc (zDWf.1 0 104) (zDWf.1 p 104) := zDc.pu _
theorem zDo_105 (p : Nat) : zDc (zDWf.1 0 105) (zDWf.1 p 105) := zDc.pu _
theorem zDo_108 (p : Nat) : zDc (zDWf.1 0 108) (zDWf.1 p 108) := zDc.pu _
theorem zDo_109 (p : Nat) : zDc (zDWf.1 0 109) (zDWf.1 p 109) := zDc.pu _
theorem zDo_112 (p : Nat) : zDc (zDWf.1 0 112) (zDWf.1 p 112) := zDc.pu _
theorem zDo_113 (p : Nat) : zDc (zDWf.1 0 113) (zDWf.1 p 113) := zDc.pu _
theorem zDo_116 (p : Nat) : zDc (zDWf.1 0 116) (zDWf.1 p 116) := zDc.pu _
theorem zDo_117 (p : Nat) : zDc (zDWf.1 0 117) (zDWf.1 p 117) := zDc.pu _
theorem zDo_120 (p : Nat) : zDc (zDWf.1 0 120) (zDWf.1 p 120) := zDc.pu _
theorem zDo_121 (p : Nat) : zDc (zDWf.1 0 121) (zDWf.1 p 121) := zDc.pu _
theorem zDo_122 (p : Nat) : zDc (zDWf.1 0 122) (zDWf.1 p 122) := zDc.pu _
theorem zDo_123 (p : Nat) : zDc (zDWf.1 0 123) (zDWf.1 p 123) := zDc.pu _
theorem zDo_124 (p : Nat) : zDc (zDWf.1 0 124) (zDWf.1 p 124) := zDc.pu _
theorem zDo_126 (p : Nat) : zDc (zDWf.1 0 126) (zDWf.1 p 126) := zDc.pu _
theorem zDo_127 (p : Nat) : zDc (zDWf.1 0 127) (zDWf.1 p 127) := zDc.pu _
theorem zDo_128 (p : Nat) : zDc (zDWf.1 0 128) (zDWf.1 p 128) := zDc.pu _
theorem zDo_129 (p : Nat) : zDc (zDWf.1 0 129) (zDWf.1 p 129) := zDc.pu _
theorem zDo_130 (p : Nat) : zDc (zDWf.1 0 130) (zDWf.1 p 130) := zDc.pu _
theorem zDo_131 (p : Nat) : zDc (zDWf.1 0 131) (zDWf.1 p 131) := zDc.pu _
theorem zDo_132 (p : Nat) : zDc (zDWf.1 0 132) (zDWf.1 p 132) := zDc.bi zDc.u1 (fun _ => zDc.bi zDc.s1 (fun _ => zDc.pu _))
theorem zDo_133 (p : Nat) : zDc (zDWf.1 0 133) (zDWf.1 p 133) := zDc.pu _
theorem zDo_136 (p : Nat) : zDc (zDWf.1 0 136) (zDWf.1 p 136) := zDc.pu _
theorem zDo_148 (p : Nat) : zDc (zDWf.1 0 148) (zDWf.1 p 148) := zDc.pu _
theorem zDo_153 (p : Nat) : zDc (zDWf.1 0 153) (zDWf.1 p 153) := zDc.bi zDc.s2 (fun _ => zDc.pu _)
theorem zDo_154 (p : Nat) : zDc (zDWf.1 0 154) (zDWf.1 p 154) := zDc.bi zDc.s2 (fun _ => zDc.pu _)
theorem zDo_155 (p : Nat) : zDc (zDWf.1 0 155) (zDWf.1 p 155) := zDc.bi zDc.s2 (fun _ => zDc.pu _)
theorem zDo_156 (p : Nat) : zDc (zDWf.1 0 156) (zDWf.1 p 156) := zDc.bi zDc.s2 (fun _ => zDc.pu _)
theorem zDo_157 (p : Nat) : zDc (zDWf.1 0 157) (zDWf.1 p 157) := zDc.bi zDc.s2 (fun _ => zDc.pu _)
theorem zDo_158 (p : Nat) : zDc (zDWf.1 0 158) (zDWf.1 p 158) := zDc.bi zDc.s2 (fun _ => zDc.pu _)
theorem zDo_159 (p : Nat) : zDc (zDWf.1 0 159) (zDWf.1 p 159) := zDc.bi zDc.s2 (fun _ => zDc.pu _)
theorem zDo_160 (p : Nat) : zDc (zDWf.1 0 160) (zDWf.1 p 160) := zDc.bi zDc.s2 (fun _ => zDc.pu _)
theorem zDo_161 (p : Nat) : zDc (zDWf.1 0 161) (zDWf.1 p 161) := zDc.bi zDc.s2 (fun _ => zDc.pu _)
theorem zDo_162 (p : Nat) : zDc (zDWf.1 0 162) (zDWf.1 p 162) := zDc.bi zDc.s2 (fun _ => zDc.pu _)
theorem zDo_163 (p : Nat) : zDc (zDWf.1 0 163) (zDWf.1 p 163) := zDc.bi zDc.s2 (fun _ => zDc.pu _)
theorem zDo_164 (p : Nat) : zDc (zDWf.1 0 164) (zDWf.1 p 164) := zDc.bi zDc.s2 (fun _ => zDc.pu _)
theorem zDo_165 (p : Nat) : zDc (zDWf.1 0 165) (zDWf.1 p 165) := zDc.bi zDc.s2 (fun _ => zDc.pu _)
theorem zDo_166 (p : Nat) : zDc (zDWf.1 0 166) (zDWf.1 p 166) := zDc.bi zDc.s2 (fun _ => zDc.pu _)
theorem zDo_167 (p : Nat) : zDc (zDWf.1 0 167) (zDWf.1 p 167) := zDc.bi zDc.s2 (fun _ => zDc.pu _)
theorem zDo_172 (p : Nat) : zDc (zDWf.1 0 172) (zDWf.1 p 172) := zDc.pu _
theorem zDo_173 (p : Nat) : zDc (zDWf.1 0 173) (zDWf.1 p 173) := zDc.pu _
theorem zDo_176 (p : Nat) : zDc (zDWf.1 0 176) (zDWf.1 p 176) := zDc.pu _
theorem zDo_177 (p : Nat) : zDc (zDWf.1 0 177) (zDWf.1 p 177) := zDc.pu _
theorem zDo_178 (p : Nat) : zDc (zDWf.1 0 178) (zDWf.1 p 178) := zDc.bi zDc.u2 (fun _ => zDc.pu _)
theorem zDo_179 (p : Nat) : zDc (zDWf.1 0 179) (zDWf.1 p 179) := zDc.bi zDc.u2 (fun _ => zDc.pu _)
theorem zDo_180 (p : Nat) : zDc (zDWf.1 0 180) (zDWf.1 p 180) := zDc.bi zDc.u2 (fun _ => zDc.pu _)
theorem zDo_181 (p : Nat) : zDc (zDWf.1 0 181) (zDWf.1 p 181) := zDc.bi zDc.u2 (fun _ => zDc.pu _)
theorem zDo_182 (p : Nat) : zDc (zDWf.1 0 182) (zDWf.1 p 182) := zDc.bi zDc.u2 (fun _ => zDc.pu _)
theorem zDo_183 (p : Nat) : zDc (zDWf.1 0 183) (zDWf.1 p 183) := zDc.bi zDc.u2 (fun _ => zDc.pu _)
theorem zDo_184 (p : Nat) : zDc (zDWf.1 0 184) (zDWf.1 p 184) := zDc.bi zDc.u2 (fun _ => zDc.pu _)
theorem zDo_187 (p : Nat) : zDc (zDWf.1 0 187) (zDWf.1 p 187) := zDc.bi zDc.u2 (fun _ => zDc.pu _)
theorem zDo_190 (p : Nat) : zDc (zDWf.1 0 190) (zDWf.1 p 190) := zDc.pu _
theorem zDo_198 (p : Nat) : zDc (zDWf.1 0 198) (zDWf.1 p 198) := zDc.bi zDc.s2 (fun _ => zDc.pu _)
theorem zDo_199 (p : Nat) : zDc (zDWf.1 0 199) (zDWf.1 p 199) := zDc.bi zDc.s2 (fun _ => zDc.pu _)
def zDops : List Nat := [2, 3, 4, 5, 6, 7, 8, 9, 10, 16, 17, 18, 19, 20, 21, 22, 25, 26, 27, 28, 29, 30, 31, 32, 33, 42, 43, 44, 45, 46, 47, 54, 55, 58, 59, 60, 61, 62, 63, 64, 65, 66, 75, 76, 77, 78, 79, 80, 83, 87, 88, 89, 92, 96, 97, 100, 101, 104, 105, 108, 109, 112, 113, 116, 117, 120, 121, 122, 123, 124, 126, 127, 128, 129, 130, 131, 132, 133, 136, 148, 153, 154, 155, 156, 157, 158, 159, 160, 161, 162, 163, 164, 165, 166, 167, 172, 173, 176, 177, 178, 179, 180, 181, 182, 183, 184, 187, 190, 198, 199]
def zDmask : Nat := 1207017930466722092564788698233701825391987718457023507924988
theorem zDall (p : Nat) : zDA (fun o => zDc (zDWf.1 0 o) (zDWf.1 p o)) zDops := ⟨zDo_2 p, zDo_3 p, zDo_4 p, zDo_5 p, zDo_6 p, zDo_7 p, zDo_8 p, zDo_9 p, zDo_10 p, zDo_16 p, zDo_17 p, zDo_18 p, zDo_19 p, zDo_20 p, zDo_21 p, zDo_22 p, zDo_25 p, zDo_26 p, zDo_27 p, zDo_28 p, zDo_29 p, zDo_30 p, zDo_31 p, zDo_32 p, zDo_33 p, zDo_42 p, zDo_43 p, zDo_44 p, zDo_45 p, zDo_46 p, zDo_47 p, zDo_54 p, zDo_55 p, zDo_58 p, zDo_59 p, zDo_60 p, zDo_61 p, zDo_62 p, zDo_63 p, zDo_64 p, zDo_65 p, zDo_66 p, zDo_75 p, zDo_76 p, zDo_77 p, zDo_78 p, zDo_79 p, zDo_80 p, zDo_83 p, zDo_87 p, zDo_88 p, zDo_89 p, zDo_92 p, zDo_96 p, zDo_97 p, zDo_100 p, zDo_101 p, zDo_104 p, zDo_105 p, zDo_108 p, zDo_109 p, zDo_112 p, zDo_113 p, zDo_116 p, zDo_117 p, zDo_120 p, zDo_121 p, zDo_122 p, zDo_123 p, zDo_124 p, zDo_126 p, zDo_127 p, zDo_128 p, zDo_129 p, zDo_130 p, zDo_131 p, zDo_132 p, zDo_133 p, zDo_136 p, zDo_148 p, zDo_153 p, zDo_154 p, zDo_155 p, zDo_156 p, zDo_157 p, zDo_158 p, zDo_159 p, zDo_160 p, zDo_161 p, zDo_162 p, zDo_163 p, zDo_164 p, zDo_165 p, zDo_166 p, zDo_167 p, zDo_172 p, zDo_173 p, zDo_176 p, zDo_177 p, zDo_178 p, zDo_179 p, zDo_180 p, zDo_181 p, zDo_182 p, zDo_183 p, zDo_184 p, zDo_187 p, zDo_190 p, zDo_198 p, zDo_199 p, trivial⟩
theorem zDmem : ∀ x, x < 256 → Nat.testBit zDmask x = true → x ∈ zDops := by decide +kernel
theorem zDdec {b c : ByteArray} {p : Nat} (ha : zDag b c p) (hz : 0 < c.size) (hm : Nat.testBit zDmask c[0].toNat = true) {e : Jvm.ClassFile.Instr × Nat} (h : decode c 0 = .ok e) : decode b p = .ok e := by
  have hl := zDA.m (zDall p) (zDmem _ (UInt8.toNat_lt _) hm)
  cases hr : Jvm.ClassFile.Reader.runAt (Jvm.ClassFile.Decoder.instr 0) c 0 with
  | error e2 =>
    have h2 : Except.bind (Jvm.ClassFile.Reader.runAt (Jvm.ClassFile.Decoder.instr 0) c 0) (fun z => Except.ok (z.1, z.2 - 0)) = .ok e := h
    rw [hr] at h2
    cases h2
  | ok z =>
    have h2 : Except.bind (Jvm.ClassFile.Reader.runAt (Jvm.ClassFile.Decoder.instr 0) c 0) (fun z => Except.ok (z.1, z.2 - 0)) = .ok e := h
    rw [hr] at h2
    have h3 : (Except.ok (z.1, z.2 - 0) : Except Jvm.ClassFile.DecodeError _) = .ok e := h2
    injection h3 with h4
    rw [zDWf.2 0, zDbo (zDu1o hz)] at hr
    obtain ⟨h5, h6, h7⟩ := ha 0 hz
    have hr2 := hl b c p ha 1 z hr
    have hi : Jvm.ClassFile.Reader.runAt (Jvm.ClassFile.Decoder.instr p) b p = .ok (z.1, p + z.2) := by
      rw [zDWf.2 p, zDbo (zDu1o (q := p) h6)]
      show Jvm.ClassFile.Reader.runAt (zDWf.1 p (b[p + 0]'h6).toNat) b (p + 1) = _
      rw [h7]
      exact hr2
    show Except.bind (Jvm.ClassFile.Reader.runAt (Jvm.ClassFile.Decoder.instr p) b p) (fun z => Except.ok (z.1, z.2 - p)) = _
    rw [hi]
    show (Except.ok (z.1, p + z.2 - p) : Except Jvm.ClassFile.DecodeError _) = _
    rw [Nat.add_sub_cancel_left, ← h4]
    rfl
def zDk : List UInt8 → Bool
  | [] => false
  | x :: _ => Nat.testBit zDmask x.toNat
theorem zDag_t {b : ByteArray} {p : Nat} {s : List UInt8} (hs : b.data.toList.drop p = s) : zDag b ⟨⟨s.take 3⟩⟩ p := by
  subst hs
  intro i h
  have h1 : i < ((b.data.toList.drop p).take 3).length := h
  have e : ((b.data.toList.drop p).take 3)[i]? = some ((b.data.toList.drop p).take 3)[i] := List.getElem?_eq_getElem h1
  have h3 : i < 3 := by
    rw [List.length_take] at h1
    omega
  rw [List.getElem?_take_of_lt h3, List.getElem?_drop] at e
  obtain ⟨h4, h5⟩ := List.getElem?_eq_some_iff.1 e
  exact ⟨h, h4, h5⟩
def zYQv (b u : Nat) : Int → Bool
  | .ofNat m => Nat.beq m u && Nat.blt u b
  | .negSucc m => Nat.beq (m + 1 + u) (b + b) && Nat.ble b u
theorem zYQv_s {w u : Nat} {v : Int} (h : zYQv (2 ^ (w - 1)) u v = true) (hw : 2 ^ (w - 1) + 2 ^ (w - 1) = 2 ^ w) : Jvm.ClassFile.Reader.signed w u = v := by
  unfold Jvm.ClassFile.Reader.signed
  cases v with
  | ofNat m =>
    have h1 : (Nat.beq m u && Nat.blt u (2 ^ (w - 1))) = true := h
    rw [Bool.and_eq_true] at h1
    have h2 := Nat.eq_of_beq_eq_true h1.1
    have h3 : u < 2 ^ (w - 1) := Nat.le_of_ble_eq_true h1.2
    rw [if_pos h3]
    exact congrArg Int.ofNat h2.symm
  | negSucc m =>
    have h1 : (Nat.beq (m + 1 + u) (2 ^ (w - 1) + 2 ^ (w - 1)) && Nat.ble (2 ^ (w - 1)) u) = true := h
    rw [Bool.and_eq_true] at h1
    have h2 := Nat.eq_of_beq_eq_true h1.1
    have h3 : 2 ^ (w - 1) ≤ u := Nat.le_of_ble_eq_true h1.2
    rw [if_neg (Nat.not_lt.2 h3), ← hw, ← h2, Int.negSucc_eq]
    omega
def zYQ1 (o : Nat) : List UInt8 → Nat
  | X :: _ => cond (Nat.beq X.toNat o) 1 0
  | [] => 0
def zYQ2 (o k : Nat) : List UInt8 → Nat
  | X :: Y :: _ => cond (Nat.beq X.toNat o && Nat.beq Y.toNat k) 2 0
  | _ => 0
def zYQ3 (o k : Nat) : List UInt8 → Nat
  | X :: Y :: Z :: _ => cond (Nat.beq X.toNat o && Nat.beq (Y.toNat * 256 + Z.toNat) k) 3 0
  | _ => 0
def zYQ4 (o : Nat) (v : Int) : List UInt8 → Nat
  | X :: Y :: _ => cond (Nat.beq X.toNat o && zYQv 128 Y.toNat v) 2 0
  | _ => 0
def zYQ5 (o : Nat) (v : Int) : List UInt8 → Nat
  | X :: Y :: Z :: _ => cond (Nat.beq X.toNat o && zYQv 32768 (Y.toNat * 256 + Z.toNat) v) 3 0
  | _ => 0
def zYQ6 (o k : Nat) (v : Int) : List UInt8 → Nat
  | X :: Y :: Z :: _ => cond (Nat.beq X.toNat o && Nat.beq Y.toNat k && zYQv 128 Z.toNat v) 3 0
  | _ => 0
theorem zYQd {X : UInt8} {t : List UInt8} {i : Jvm.ClassFile.Instr} {m : Nat} (h : Jvm.ClassFile.Reader.runAt (zDWf.1 0 X.toNat) ⟨⟨X :: t⟩⟩ 1 = .ok (i, m)) : decode ⟨⟨X :: t⟩⟩ 0 = .ok (i, m) := by
  have h0 : 0 < (⟨⟨X :: t⟩⟩ : ByteArray).size := Nat.succ_pos _
  show Except.bind (Jvm.ClassFile.Reader.runAt (Jvm.ClassFile.Decoder.instr 0) ⟨⟨X :: t⟩⟩ 0) (fun z => Except.ok (z.1, z.2 - 0)) = _
  rw [zDWf.2 0, zDbo (zDu1o h0)]
  have h1 : Jvm.ClassFile.Reader.runAt (zDWf.1 0 ((⟨⟨X :: t⟩⟩ : ByteArray)[0]'h0).toNat) ⟨⟨X :: t⟩⟩ (0 + 1) = .ok (i, m) := h
  rw [h1]
  rfl
theorem zYQu {c : ByteArray} {q : Nat} {a b : Nat} (h : Jvm.ClassFile.Reader.runAt (Jvm.ClassFile.Reader.u1 : Jvm.ClassFile.Decoder Nat) c q = .ok (a, q + 1)) (h2 : Jvm.ClassFile.Reader.runAt (Jvm.ClassFile.Reader.u1 : Jvm.ClassFile.Decoder Nat) c (q + 1) = .ok (b, q + 2)) : Jvm.ClassFile.Reader.runAt (Jvm.ClassFile.Reader.u2 : Jvm.ClassFile.Decoder Nat) c q = .ok (a * 256 + b, q + 2) := by
  show Jvm.ClassFile.Reader.runAt (Jvm.ClassFile.Reader.u1 >>= fun hi => Jvm.ClassFile.Reader.u1 >>= fun lo => pure (hi * 256 + lo)) c q = _
  rw [zDbo h, zDbo h2]
  rfl
theorem zYQy {X Y : UInt8} {t : List UInt8} : Jvm.ClassFile.Reader.runAt (Jvm.ClassFile.Reader.u1 : Jvm.ClassFile.Decoder Nat) ⟨⟨X :: Y :: t⟩⟩ 1 = .ok (Y.toNat, 2) := by
  have h0 : 1 < (⟨⟨X :: Y :: t⟩⟩ : ByteArray).size := Nat.succ_lt_succ (Nat.succ_pos _)
  rw [zDu1o h0]
  rfl
theorem zYQx {X Y Z : UInt8} {t : List UInt8} : Jvm.ClassFile.Reader.runAt (Jvm.ClassFile.Reader.u1 : Jvm.ClassFile.Decoder Nat) ⟨⟨X :: Y :: Z :: t⟩⟩ 2 = .ok (Z.toNat, 3) := by
  have h0 : 2 < (⟨⟨X :: Y :: Z :: t⟩⟩ : ByteArray).size := Nat.succ_lt_succ (Nat.succ_lt_succ (Nat.succ_pos _))
  rw [zDu1o h0]
  rfl
theorem zYQm {α β : Type} {r : Jvm.ClassFile.Decoder α} (g : α → β) {c : ByteArray} {q : Nat} {z : α × Nat} (h : Jvm.ClassFile.Reader.runAt r c q = .ok z) : Jvm.ClassFile.Reader.runAt (g <$> r) c q = .ok (g z.1, z.2) := by
  show Except.bind (Jvm.ClassFile.Reader.runAt r c q) _ = _
  rw [h]
  rfl
theorem zYQc {b : Bool} {k n : Nat} (h : cond b k 0 = n + 1) : b = true ∧ k = n + 1 := by
  cases b with
  | false => exact absurd h.symm (Nat.succ_ne_zero _)
  | true => exact ⟨rfl, h⟩
theorem zYQ1_s {o : Nat} {i : Jvm.ClassFile.Instr} (hf : zDWf.1 0 o = (Pure.pure i : Jvm.ClassFile.Decoder Jvm.ClassFile.Instr)) {s : List UInt8} {n : Nat} (h : zYQ1 o s = n + 1) : decode ⟨⟨s.take 3⟩⟩ 0 = .ok (i, n + 1) := by
  match s, h with
  | [], h => exact absurd h.symm (Nat.succ_ne_zero _)
  | X :: t, h =>
    obtain ⟨h1, h2⟩ := zYQc h
    have hx := Nat.eq_of_beq_eq_true h1
    show decode ⟨⟨X :: t.take 2⟩⟩ 0 = _
    refine zYQd ?_
    rw [hx, hf, ← h2]
    rfl
theorem zYQ2_s {o k : Nat} {f : Nat → Jvm.ClassFile.Instr} (hf : zDWf.1 0 o = (Jvm.ClassFile.Reader.u1 >>= fun k => pure (f k))) {s : List UInt8} {n : Nat} (h : zYQ2 o k s = n + 1) : decode ⟨⟨s.take 3⟩⟩ 0 = .ok (f k, n + 1) := by
  match s, h with
  | [], h => exact absurd h.symm (Nat.succ_ne_zero _)
  | [_], h => exact absurd h.symm (Nat.succ_ne_zero _)
  | X :: Y :: t, h =>
    obtain ⟨h1, h2⟩ := zYQc h
    rw [Bool.and_eq_true] at h1
    have hx := Nat.eq_of_beq_eq_true h1.1
    have hy := Nat.eq_of_beq_eq_true h1.2
    show decode ⟨⟨X :: Y :: t.take 1⟩⟩ 0 = _
    refine zYQd ?_
    rw [hx, hf, zDbo zYQy, ← h2, ← hy]
    rfl
theorem zYQ4_s {o : Nat} {v : Int} {f : Int → Jvm.ClassFile.Instr} (hf : zDWf.1 0 o = (Jvm.ClassFile.Reader.s1 >>= fun k => pure (f k))) {s : List UInt8} {n : Nat} (h : zYQ4 o v s = n + 1) : decode ⟨⟨s.take 3⟩⟩ 0 = .ok (f v, n + 1) := by
  match s, h with
  | [], h => exact absurd h.symm (Nat.succ_ne_zero _)
  | [_], h => exact absurd h.symm (Nat.succ_ne_zero _)
  | X :: Y :: t, h =>
    obtain ⟨h1, h2⟩ := zYQc h
    rw [Bool.and_eq_true] at h1
    have hx := Nat.eq_of_beq_eq_true h1.1
    have hy := zYQv_s (w := 8) h1.2 rfl
    show decode ⟨⟨X :: Y :: t.take 1⟩⟩ 0 = _
    refine zYQd ?_
    have hs : Jvm.ClassFile.Reader.runAt (Jvm.ClassFile.Reader.s1 : Jvm.ClassFile.Decoder Int) ⟨⟨X :: Y :: t.take 1⟩⟩ 1 = .ok (Jvm.ClassFile.Reader.signed 8 Y.toNat, 2) := zYQm _ zYQy
    rw [hx, hf, zDbo hs, ← h2, ← hy]
    rfl
theorem zYQ3_s {o k : Nat} {f : Nat → Jvm.ClassFile.Instr} (hf : zDWf.1 0 o = (Jvm.ClassFile.Reader.u2 >>= fun k => pure (f k))) {s : List UInt8} {n : Nat} (h : zYQ3 o k s = n + 1) : decode ⟨⟨s.take 3⟩⟩ 0 = .ok (f k, n + 1) := by
  match s, h with
  | [], h => exact absurd h.symm (Nat.succ_ne_zero _)
  | [_], h => exact absurd h.symm (Nat.succ_ne_zero _)
  | [_, _], h => exact absurd h.symm (Nat.succ_ne_zero _)
  | X :: Y :: Z :: t, h =>
    obtain ⟨h1, h2⟩ := zYQc h
    rw [Bool.and_eq_true] at h1
    have hx := Nat.eq_of_beq_eq_true h1.1
    have hy := Nat.eq_of_beq_eq_true h1.2
    show decode ⟨⟨X :: Y :: Z :: t.take 0⟩⟩ 0 = _
    refine zYQd ?_
    rw [hx, hf, zDbo (zYQu zYQy zYQx), ← h2, ← hy]
    rfl
theorem zYQ5_s {o : Nat} {v : Int} {f : Int → Jvm.ClassFile.Instr} (hf : zDWf.1 0 o = (Jvm.ClassFile.Reader.s2 >>= fun k => pure (f k))) {s : List UInt8} {n : Nat} (h : zYQ5 o v s = n + 1) : decode ⟨⟨s.take 3⟩⟩ 0 = .ok (f v, n + 1) := by
  match s, h with
  | [], h => exact absurd h.symm (Nat.succ_ne_zero _)
  | [_], h => exact absurd h.symm (Nat.succ_ne_zero _)
  | [_, _], h => exact absurd h.symm (Nat.succ_ne_zero _)
  | X :: Y :: Z :: t, h =>
    obtain ⟨h1, h2⟩ := zYQc h
    rw [Bool.and_eq_true] at h1
    have hx := Nat.eq_of_beq_eq_true h1.1
    have hy := zYQv_s (w := 16) h1.2 rfl
    show decode ⟨⟨X :: Y :: Z :: t.take 0⟩⟩ 0 = _
    refine zYQd ?_
    have hs : Jvm.ClassFile.Reader.runAt (Jvm.ClassFile.Reader.s2 : Jvm.ClassFile.Decoder Int) ⟨⟨X :: Y :: Z :: t.take 0⟩⟩ 1 = .ok (Jvm.ClassFile.Reader.signed 16 (Y.toNat * 256 + Z.toNat), 3) := zYQm _ (zYQu zYQy zYQx)
    rw [hx, hf, zDbo hs, ← h2, ← hy]
    rfl
theorem zYQ6_s {o k : Nat} {v : Int} {f : Nat → Int → Jvm.ClassFile.Instr} (hf : zDWf.1 0 o = (Jvm.ClassFile.Reader.u1 >>= fun k => Jvm.ClassFile.Reader.s1 >>= fun v => pure (f k v))) {s : List UInt8} {n : Nat} (h : zYQ6 o k v s = n + 1) : decode ⟨⟨s.take 3⟩⟩ 0 = .ok (f k v, n + 1) := by
  match s, h with
  | [], h => exact absurd h.symm (Nat.succ_ne_zero _)
  | [_], h => exact absurd h.symm (Nat.succ_ne_zero _)
  | [_, _], h => exact absurd h.symm (Nat.succ_ne_zero _)
  | X :: Y :: Z :: t, h =>
    obtain ⟨h1, h2⟩ := zYQc h
    rw [Bool.and_eq_true, Bool.and_eq_true] at h1
    have hx := Nat.eq_of_beq_eq_true h1.1.1
    have hy := Nat.eq_of_beq_eq_true h1.1.2
    have hz := zYQv_s (w := 8) h1.2 rfl
    show decode ⟨⟨X :: Y :: Z :: t.take 0⟩⟩ 0 = _
    refine zYQd ?_
    have hs : Jvm.ClassFile.Reader.runAt (Jvm.ClassFile.Reader.s1 : Jvm.ClassFile.Decoder Int) ⟨⟨X :: Y :: Z :: t.take 0⟩⟩ 2 = .ok (Jvm.ClassFile.Reader.signed 8 Z.toNat, 3) := zYQm _ zYQx
    rw [hx, hf, zDbo zYQy, zDbo hs, ← h2, ← hy, ← hz]
    rfl
def zYQn : Jvm.ClassFile.Cond → Nat
  | .eq => 0
  | .ne => 1
  | .lt => 2
  | .ge => 3
  | .gt => 4
  | .le => 5
def zYQk (v : Int) : List UInt8 → Nat
  | X :: _ => match v with
    | .ofNat m => cond (Nat.beq X.toNat (m + 3) && Nat.ble m 5) 1 0
    | .negSucc m => cond (Nat.beq X.toNat 2 && Nat.beq m 0) 1 0
  | [] => 0
theorem zYQk_s {v : Int} {s : List UInt8} {n : Nat} (h : zYQk v s = n + 1) : decode ⟨⟨s.take 3⟩⟩ 0 = .ok (.iconst v, n + 1) := by
  match s, v, h with
  | [], _, h => exact absurd h.symm (Nat.succ_ne_zero _)
  | X :: t, .ofNat m, h =>
    obtain ⟨h1, h2⟩ := zYQc h
    rw [Bool.and_eq_true] at h1
    have hx := Nat.eq_of_beq_eq_true h1.1
    have hm : m ≤ 5 := Nat.le_of_ble_eq_true h1.2
    show decode ⟨⟨X :: t.take 2⟩⟩ 0 = _
    refine zYQd ?_
    rw [hx, ← h2]
    match m, hm with
    | 0, _ => rfl
    | 1, _ => rfl
    | 2, _ => rfl
    | 3, _ => rfl
    | 4, _ => rfl
    | 5, _ => rfl
    | k + 6, hm => exact absurd hm (by omega)
  | X :: t, .negSucc m, h =>
    obtain ⟨h1, h2⟩ := zYQc h
    rw [Bool.and_eq_true] at h1
    have hx := Nat.eq_of_beq_eq_true h1.1
    have hm := Nat.eq_of_beq_eq_true h1.2
    show decode ⟨⟨X :: t.take 2⟩⟩ 0 = _
    refine zYQd ?_
    rw [hx, hm, ← h2]
    rfl
def zYQe (i : Jvm.ClassFile.Instr) (s : List UInt8) : Nat := match i with
  | .iaload => zYQ1 46 s
  | .laload => zYQ1 47 s
  | .iastore => zYQ1 79 s
  | .lastore => zYQ1 80 s
  | .pop => zYQ1 87 s
  | .dup => zYQ1 89 s
  | .dup2 => zYQ1 92 s
  | .iadd => zYQ1 96 s
  | .ladd => zYQ1 97 s
  | .isub => zYQ1 100 s
  | .lsub => zYQ1 101 s
  | .imul => zYQ1 104 s
  | .lmul => zYQ1 105 s
  | .idiv => zYQ1 108 s
  | .ldiv => zYQ1 109 s
  | .irem => zYQ1 112 s
  | .lrem => zYQ1 113 s
  | .ineg => zYQ1 116 s
  | .lneg => zYQ1 117 s
  | .ishl => zYQ1 120 s
  | .lshl => zYQ1 121 s
  | .ishr => zYQ1 122 s
  | .lshr => zYQ1 123 s
  | .iushr => zYQ1 124 s
  | .lushr => zYQ1 125 s
  | .iand => zYQ1 126 s
  | .land => zYQ1 127 s
  | .ior => zYQ1 128 s
  | .lor => zYQ1 129 s
  | .ixor => zYQ1 130 s
  | .lxor => zYQ1 131 s
  | .i2l => zYQ1 133 s
  | .l2i => zYQ1 136 s
  | .lcmp => zYQ1 148 s
  | .ireturn => zYQ1 172 s
  | .lreturn => zYQ1 173 s
  | .areturn => zYQ1 176 s
  | .return_ => zYQ1 177 s
  | .arraylength => zYQ1 190 s
  | .aconst_null => zYQ1 1 s
  | .iload_n k => zYQ1 (26 + k.1) s
  | .lload_n k => zYQ1 (30 + k.1) s
  | .aload_n k => zYQ1 (42 + k.1) s
  | .istore_n k => zYQ1 (59 + k.1) s
  | .lstore_n k => zYQ1 (63 + k.1) s
  | .astore_n k => zYQ1 (75 + k.1) s
  | .ldc k => zYQ2 18 k s
  | .iload k => zYQ2 21 k s
  | .lload k => zYQ2 22 k s
  | .aload k => zYQ2 25 k s
  | .istore k => zYQ2 54 k s
  | .lstore k => zYQ2 55 k s
  | .astore k => zYQ2 58 k s
  | .ldc_w k => zYQ3 19 k s
  | .ldc2_w k => zYQ3 20 k s
  | .getstatic k => zYQ3 178 k s
  | .putstatic k => zYQ3 179 k s
  | .getfield k => zYQ3 180 k s
  | .putfield k => zYQ3 181 k s
  | .invokevirtual k => zYQ3 182 k s
  | .invokespecial k => zYQ3 183 k s
  | .invokestatic k => zYQ3 184 k s
  | .new k => zYQ3 187 k s
  | .sipush v => zYQ5 17 v s
  | .goto v => zYQ5 167 v s
  | .bipush v => zYQ4 16 v s
  | .iinc k v => zYQ6 132 k v s
  | .lconst k => zYQ1 (9 + k.1) s
  | .iconst v => zYQk v s
  | .ifCond c v => zYQ5 (153 + zYQn c) v s
  | .if_icmp c v => zYQ5 (159 + zYQn c) v s
  | _ => 0
theorem zYQe_s {i : Jvm.ClassFile.Instr} {s : List UInt8} {n : Nat} (h : zYQe i s = n + 1) : decode ⟨⟨s.take 3⟩⟩ 0 = .ok (i, n + 1) := by
  cases i
  case iaload => exact zYQ1_s rfl h
  case laload => exact zYQ1_s rfl h
  case iastore => exact zYQ1_s rfl h
  case lastore => exact zYQ1_s rfl h
  case pop => exact zYQ1_s rfl h
  case dup => exact zYQ1_s rfl h
  case dup2 => exact zYQ1_s rfl h
  case iadd => exact zYQ1_s rfl h
  case ladd => exact zYQ1_s rfl h
  case isub => exact zYQ1_s rfl h
  case lsub => exact zYQ1_s rfl h
  case imul => exact zYQ1_s rfl h
  case lmul => exact zYQ1_s rfl h
  case idiv => exact zYQ1_s rfl h
  case ldiv => exact zYQ1_s rfl h
  case irem => exact zYQ1_s rfl h
  case lrem => exact zYQ1_s rfl h
  case ineg => exact zYQ1_s rfl h
  case lneg => exact zYQ1_s rfl h
  case ishl => exact zYQ1_s rfl h
  case lshl => exact zYQ1_s rfl h
  case ishr => exact zYQ1_s rfl h
  case lshr => exact zYQ1_s rfl h
  case iushr => exact zYQ1_s rfl h
  case lushr => exact zYQ1_s rfl h
  case iand => exact zYQ1_s rfl h
  case land => exact zYQ1_s rfl h
  case ior => exact zYQ1_s rfl h
  case lor => exact zYQ1_s rfl h
  case ixor => exact zYQ1_s rfl h
  case lxor => exact zYQ1_s rfl h
  case i2l => exact zYQ1_s rfl h
  case l2i => exact zYQ1_s rfl h
  case lcmp => exact zYQ1_s rfl h
  case ireturn => exact zYQ1_s rfl h
  case lreturn => exact zYQ1_s rfl h
  case areturn => exact zYQ1_s rfl h
  case return_ => exact zYQ1_s rfl h
  case arraylength => exact zYQ1_s rfl h
  case aconst_null => exact zYQ1_s rfl h
  case iload_n k =>
    match k, h with
    | ⟨0, _⟩, h => exact zYQ1_s (o := 26) rfl h
    | ⟨1, _⟩, h => exact zYQ1_s (o := 27) rfl h
    | ⟨2, _⟩, h => exact zYQ1_s (o := 28) rfl h
    | ⟨3, _⟩, h => exact zYQ1_s (o := 29) rfl h
    | ⟨j + 4, hj⟩, _ => exact absurd hj (by omega)
  case lload_n k =>
    match k, h with
    | ⟨0, _⟩, h => exact zYQ1_s (o := 30) rfl h
    | ⟨1, _⟩, h => exact zYQ1_s (o := 31) rfl h
    | ⟨2, _⟩, h => exact zYQ1_s (o := 32) rfl h
    | ⟨3, _⟩, h => exact zYQ1_s (o := 33) rfl h
    | ⟨j + 4, hj⟩, _ => exact absurd hj (by omega)
  case aload_n k =>
    match k, h with
    | ⟨0, _⟩, h => exact zYQ1_s (o := 42) rfl h
    | ⟨1, _⟩, h => exact zYQ1_s (o := 43) rfl h
    | ⟨2, _⟩, h => exact zYQ1_s (o := 44) rfl h
    | ⟨3, _⟩, h => exact zYQ1_s (o := 45) rfl h
    | ⟨j + 4, hj⟩, _ => exact absurd hj (by omega)
  case istore_n k =>
    match k, h with
    | ⟨0, _⟩, h => exact zYQ1_s (o := 59) rfl h
    | ⟨1, _⟩, h => exact zYQ1_s (o := 60) rfl h
    | ⟨2, _⟩, h => exact zYQ1_s (o := 61) rfl h
    | ⟨3, _⟩, h => exact zYQ1_s (o := 62) rfl h
    | ⟨j + 4, hj⟩, _ => exact absurd hj (by omega)
  case lstore_n k =>
    match k, h with
    | ⟨0, _⟩, h => exact zYQ1_s (o := 63) rfl h
    | ⟨1, _⟩, h => exact zYQ1_s (o := 64) rfl h
    | ⟨2, _⟩, h => exact zYQ1_s (o := 65) rfl h
    | ⟨3, _⟩, h => exact zYQ1_s (o := 66) rfl h
    | ⟨j + 4, hj⟩, _ => exact absurd hj (by omega)
  case astore_n k =>
    match k, h with
    | ⟨0, _⟩, h => exact zYQ1_s (o := 75) rfl h
    | ⟨1, _⟩, h => exact zYQ1_s (o := 76) rfl h
    | ⟨2, _⟩, h => exact zYQ1_s (o := 77) rfl h
    | ⟨3, _⟩, h => exact zYQ1_s (o := 78) rfl h
    | ⟨j + 4, hj⟩, _ => exact absurd hj (by omega)
  case ldc k => exact zYQ2_s (f := fun k => .ldc k) rfl h
  case iload k => exact zYQ2_s (f := fun k => .iload k) rfl h
  case lload k => exact zYQ2_s (f := fun k => .lload k) rfl h
  case aload k => exact zYQ2_s (f := fun k => .aload k) rfl h
  case istore k => exact zYQ2_s (f := fun k => .istore k) rfl h
  case lstore k => exact zYQ2_s (f := fun k => .lstore k) rfl h
  case astore k => exact zYQ2_s (f := fun k => .astore k) rfl h
  case ldc_w k => exact zYQ3_s (f := fun k => .ldc_w k) rfl h
  case ldc2_w k => exact zYQ3_s (f := fun k => .ldc2_w k) rfl h
  case getstatic k => exact zYQ3_s (f := fun k => .getstatic k) rfl h
  case putstatic k => exact zYQ3_s (f := fun k => .putstatic k) rfl h
  case getfield k => exact zYQ3_s (f := fun k => .getfield k) rfl h
  case putfield k => exact zYQ3_s (f := fun k => .putfield k) rfl h
  case invokevirtual k => exact zYQ3_s (f := fun k => .invokevirtual k) rfl h
  case invokespecial k => exact zYQ3_s (f := fun k => .invokespecial k) rfl h
  case invokestatic k => exact zYQ3_s (f := fun k => .invokestatic k) rfl h
  case new k => exact zYQ3_s (f := fun k => .new k) rfl h
  case sipush v => exact zYQ5_s (f := fun v => .sipush v) rfl h
  case goto v => exact zYQ5_s (f := fun v => .goto v) rfl h
  case bipush v => exact zYQ4_s (f := fun v => .bipush v) rfl h
  case iinc k v => exact zYQ6_s (f := fun k v => .iinc k v) rfl h
  case lconst k =>
    match k, h with
    | ⟨0, _⟩, h => exact zYQ1_s (o := 9) rfl h
    | ⟨1, _⟩, h => exact zYQ1_s (o := 10) rfl h
    | ⟨j + 2, hj⟩, _ => exact absurd hj (by omega)
  case iconst v => exact zYQk_s h
  case ifCond c v =>
    cases c with
    | eq => exact zYQ5_s (o := 153) (f := fun v => .ifCond .eq v) rfl h
    | ne => exact zYQ5_s (o := 154) (f := fun v => .ifCond .ne v) rfl h
    | lt => exact zYQ5_s (o := 155) (f := fun v => .ifCond .lt v) rfl h
    | ge => exact zYQ5_s (o := 156) (f := fun v => .ifCond .ge v) rfl h
    | gt => exact zYQ5_s (o := 157) (f := fun v => .ifCond .gt v) rfl h
    | le => exact zYQ5_s (o := 158) (f := fun v => .ifCond .le v) rfl h
  case if_icmp c v =>
    cases c with
    | eq => exact zYQ5_s (o := 159) (f := fun v => .if_icmp .eq v) rfl h
    | ne => exact zYQ5_s (o := 160) (f := fun v => .if_icmp .ne v) rfl h
    | lt => exact zYQ5_s (o := 161) (f := fun v => .if_icmp .lt v) rfl h
    | ge => exact zYQ5_s (o := 162) (f := fun v => .if_icmp .ge v) rfl h
    | gt => exact zYQ5_s (o := 163) (f := fun v => .if_icmp .gt v) rfl h
    | le => exact zYQ5_s (o := 164) (f := fun v => .if_icmp .le v) rfl h
  all_goals exact absurd h.symm (Nat.succ_ne_zero _)
def zYQw (b : ByteArray) : Nat → List UInt8 → List (Nat × (Jvm.ClassFile.Instr × Nat)) → Bool
  | _, _, [] => true
  | p, s, (q, i, n) :: l => Nat.beq q p && (cond (zDk s) ((Nat.beq (zYQe i s) n && Nat.ble 1 n) || decide (decode ⟨⟨s.take 3⟩⟩ 0 = .ok (i, n))) (decide (decode b p = .ok (i, n))) && zYQw b (p + n) (s.drop n) l)
theorem zYQw_d {b : ByteArray} : ∀ {l : List (Nat × (Jvm.ClassFile.Instr × Nat))} {p : Nat} {s : List UInt8}, b.data.toList.drop p = s → zYQw b p s l = true → zdal b l = true
  | [], _, _, _, _ => rfl
  | (q, i, n) :: l, p, s, hs, h => by
    have h2 : (Nat.beq q p && (cond (zDk s) ((Nat.beq (zYQe i s) n && Nat.ble 1 n) || decide (decode ⟨⟨s.take 3⟩⟩ 0 = .ok (i, n))) (decide (decode b p = .ok (i, n))) && zYQw b (p + n) (s.drop n) l)) = true := h
    rw [Bool.and_eq_true, Bool.and_eq_true] at h2
    obtain ⟨h3, h4, h5⟩ := h2
    have hp : q = p := Nat.eq_of_beq_eq_true h3
    have hd : decode b q = .ok (i, n) := by
      rw [hp]
      cases hk : zDk s with
      | false =>
        rw [hk] at h4
        exact of_decide_eq_true h4
      | true =>
        rw [hk] at h4
        have h6 : decode ⟨⟨s.take 3⟩⟩ 0 = .ok (i, n) := by
          have h7 : ((Nat.beq (zYQe i s) n && Nat.ble 1 n) || decide (decode ⟨⟨s.take 3⟩⟩ 0 = .ok (i, n))) = true := h4
          rw [Bool.or_eq_true, Bool.and_eq_true] at h7
          rcases h7 with ⟨h8, h9⟩ | h8
          · have e1 := Nat.eq_of_beq_eq_true h8
            have e2 : 1 ≤ n := Nat.le_of_ble_eq_true h9
            cases n with
            | zero => exact absurd e2 (Nat.not_succ_le_zero _)
            | succ m => exact zYQe_s e1
          · exact of_decide_eq_true h8
        cases s with
        | nil => cases hk
        | cons x t => exact zDdec (zDag_t hs) (Nat.succ_pos _) hk h6
    have hr : zdal b l = true := zYQw_d (p := p + n) (s := s.drop n) (by rw [← hs, List.drop_drop]) h5
    show (decide (decode b q = .ok (i, n)) && zdal b l) = true
    rw [Bool.and_eq_true]
    exact ⟨decide_eq_true hd, hr⟩
theorem zYQs {b : ByteArray} {l : List (Nat × (Jvm.ClassFile.Instr × Nat))} (p : Nat) (h : zYQw b p (b.data.toList.drop p) l = true) : zdal b l = true := zYQw_d rfl h
theorem dlA_T_init_0 : zdal (zb m_T_init) [(0, (.aload_n 0, 1)), (1, (.invokespecial 1, 3)), (4, (.aload_n 0, 1)), (5, (.new 7, 3)), (8, (.dup, 1)), (9, (.invokespecial 9, 3)), (12, (.putfield 10, 3)), (15, (.aload_n 0, 1)), (16, (.new 16, 3)), (19, (.dup, 1)), (20, (.aload_n 0, 1)), (21, (.getfield 10, 3)), (24, (.invokespecial 18, 3)), (27, (.putfield 21, 3)), (30, (.aload_n 0, 1)), (31, (.new 25, 3)), (34, (.dup, 1)), (35, (.invokespecial 27, 3)), (38, (.putfield 28, 3)), (41, (.aload_n 0, 1)), (42, (.new 25, 3)), (45, (.dup, 1)), (46, (.invokespecial 27, 3)), (49, (.putfield 32, 3))] = true := zYQs 0 (by decide +kernel)
theorem dlA_T_init_1 : zdal (zb m_T_init) [(52, (.aload_n 0, 1)), (53, (.getfield 28, 3)), (56, (.iconst 1, 1)), (57, (.invokevirtual 35, 3)), (60, (.aload_n 0, 1)), (61, (.getfield 28, 3)), (64, (.invokevirtual 39, 3)), (67, (.return_, 1))] = true := zYQs 52 (by decide +kernel)
theorem dlA_Tokens_init_2 : zdal (zb m_Tokens_init) [(0, (.aload_n 0, 1)), (1, (.invokespecial 3, 3)), (4, (.aload_n 0, 1)), (5, (.new 9, 3)), (8, (.dup, 1)), (9, (.sipush 700, 3)), (12, (.invokespecial 11, 3)), (15, (.putfield 14, 3)), (18, (.return_, 1))] = true := zYQs 0 (by decide +kernel)
theorem dlA_IntRow_init_3 : zdal (zb m_IntRow_init) [(0, (.aload_n 0, 1)), (1, (.invokespecial 1, 3)), (4, (.aload_n 0, 1)), (5, (.iload_n 1, 1)), (6, (.iconst 0, 1)), (7, (.invokestatic 7, 3)), (10, (.newarray .int, 2)), (12, (.putfield 13, 3)), (15, (.return_, 1))] = true := zYQs 0 (by decide +kernel)
theorem dlA_Reader_init_4 : zdal (zb m_Reader_init) [(0, (.aload_n 0, 1)), (1, (.invokespecial 3, 3)), (4, (.aload_n 0, 1)), (5, (.iconst (-1), 1)), (6, (.putfield 9, 3)), (9, (.aload_n 0, 1)), (10, (.aload_n 1, 1)), (11, (.putfield 15, 3)), (14, (.return_, 1))] = true := zYQs 0 (by decide +kernel)
theorem dlA_Troupe_init_5 : zdal (zb m_Troupe_init) [(0, (.aload_n 0, 1)), (1, (.invokespecial 3, 3)), (4, (.aload_n 0, 1)), (5, (.new 9, 3)), (8, (.dup, 1)), (9, (.invokespecial 11, 3)), (12, (.putfield 12, 3)), (15, (.aload_n 0, 1)), (16, (.new 18, 3)), (19, (.dup, 1)), (20, (.aload_n 0, 1)), (21, (.getfield 12, 3)), (24, (.invokespecial 20, 3)), (27, (.putfield 23, 3)), (30, (.aload_n 0, 1)), (31, (.new 27, 3)), (34, (.dup, 1)), (35, (.aload_n 0, 1)), (36, (.getfield 23, 3)), (39, (.invokespecial 29, 3)), (42, (.putfield 32, 3)), (45, (.aload_n 0, 1)), (46, (.new 36, 3)), (49, (.dup, 1))] = true := zYQs 0 (by decide +kernel)
theorem dlA_Troupe_init_6 : zdal (zb m_Troupe_init) [(50, (.aload_n 0, 1)), (51, (.getfield 23, 3)), (54, (.invokespecial 38, 3)), (57, (.putfield 39, 3)), (60, (.aload_n 0, 1)), (61, (.new 43, 3)), (64, (.dup, 1)), (65, (.aload_n 0, 1)), (66, (.getfield 32, 3)), (69, (.invokespecial 45, 3)), (72, (.putfield 48, 3)), (75, (.aload_n 0, 1)), (76, (.new 52, 3)), (79, (.dup, 1)), (80, (.bipush 8, 2)), (82, (.invokespecial 54, 3)), (85, (.putfield 57, 3)), (88, (.return_, 1))] = true := zYQs 50 (by decide +kernel)
theorem dlA_Group_init_7 : zdal (zb m_Group_init) [(0, (.aload_n 0, 1)), (1, (.invokespecial 3, 3)), (4, (.aload_n 0, 1)), (5, (.new 9, 3)), (8, (.dup, 1)), (9, (.iconst 4, 1)), (10, (.invokespecial 11, 3)), (13, (.putfield 14, 3)), (16, (.aload_n 0, 1)), (17, (.new 9, 3)), (20, (.dup, 1)), (21, (.bipush 24, 2)), (23, (.invokespecial 11, 3)), (26, (.putfield 20, 3)), (29, (.aload_n 0, 1)), (30, (.new 9, 3)), (33, (.dup, 1)), (34, (.sipush 576, 3)), (37, (.invokespecial 11, 3)), (40, (.putfield 23, 3)), (43, (.aload_n 0, 1)), (44, (.new 9, 3)), (47, (.dup, 1)), (48, (.bipush 24, 2))] = true := zYQs 0 (by decide +kernel)
theorem dlA_Group_init_8 : zdal (zb m_Group_init) [(50, (.invokespecial 11, 3)), (53, (.putfield 26, 3)), (56, (.aload_n 0, 1)), (57, (.new 9, 3)), (60, (.dup, 1)), (61, (.bipush 24, 2)), (63, (.invokespecial 11, 3)), (66, (.putfield 29, 3)), (69, (.return_, 1))] = true := zYQs 50 (by decide +kernel)
theorem dlA_Sorts_init_9 : zdal (zb m_Sorts_init) [(0, (.aload_n 0, 1)), (1, (.invokespecial 3, 3)), (4, (.aload_n 0, 1)), (5, (.new 9, 3)), (8, (.dup, 1)), (9, (.bipush 35, 2)), (11, (.invokespecial 11, 3)), (14, (.putfield 14, 3)), (17, (.aload_n 0, 1)), (18, (.new 9, 3)), (21, (.dup, 1)), (22, (.bipush 35, 2)), (24, (.invokespecial 11, 3)), (27, (.putfield 20, 3)), (30, (.aload_n 0, 1)), (31, (.new 9, 3)), (34, (.dup, 1)), (35, (.bipush 35, 2)), (37, (.invokespecial 11, 3)), (40, (.putfield 23, 3)), (43, (.aload_n 0, 1)), (44, (.new 9, 3)), (47, (.dup, 1)), (48, (.bipush 27, 2))] = true := zYQs 0 (by decide +kernel)
theorem dlA_Sorts_init_10 : zdal (zb m_Sorts_init) [(50, (.invokespecial 11, 3)), (53, (.putfield 26, 3)), (56, (.aload_n 0, 1)), (57, (.new 9, 3)), (60, (.dup, 1)), (61, (.sipush 729, 3)), (64, (.invokespecial 11, 3)), (67, (.putfield 29, 3)), (70, (.aload_n 0, 1)), (71, (.aload_n 1, 1)), (72, (.putfield 32, 3)), (75, (.return_, 1))] = true := zYQs 50 (by decide +kernel)
theorem dlA_Sums_init_11 : zdal (zb m_Sums_init) [(0, (.aload_n 0, 1)), (1, (.invokespecial 5, 3)), (4, (.aload_n 0, 1)), (5, (.new 11, 3)), (8, (.dup, 1)), (9, (.sipush 1080, 3)), (12, (.invokespecial 13, 3)), (15, (.putfield 16, 3)), (18, (.aload_n 0, 1)), (19, (.new 11, 3)), (22, (.dup, 1)), (23, (.bipush 27, 2)), (25, (.invokespecial 13, 3)), (28, (.putfield 20, 3)), (31, (.aload_n 0, 1)), (32, (.aload_n 1, 1)), (33, (.putfield 23, 3)), (36, (.return_, 1))] = true := zYQs 0 (by decide +kernel)
theorem dlA_LongRow_init_12 : zdal (zb m_LongRow_init) [(0, (.aload_n 0, 1)), (1, (.invokespecial 1, 3)), (4, (.aload_n 0, 1)), (5, (.iload_n 1, 1)), (6, (.iconst 0, 1)), (7, (.invokestatic 7, 3)), (10, (.newarray .long, 2)), (12, (.putfield 13, 3)), (15, (.return_, 1))] = true := zYQs 0 (by decide +kernel)
theorem dlA_Units_init_13 : zdal (zb m_Units_init) [(0, (.aload_n 0, 1)), (1, (.invokespecial 3, 3)), (4, (.aload_n 0, 1)), (5, (.new 9, 3)), (8, (.dup, 1)), (9, (.bipush 27, 2)), (11, (.invokespecial 11, 3)), (14, (.putfield 14, 3)), (17, (.aload_n 0, 1)), (18, (.new 9, 3)), (21, (.dup, 1)), (22, (.bipush 24, 2)), (24, (.invokespecial 11, 3)), (27, (.putfield 20, 3)), (30, (.aload_n 0, 1)), (31, (.aload_n 1, 1)), (32, (.putfield 23, 3)), (35, (.return_, 1))] = true := zYQs 0 (by decide +kernel)
theorem dlA_Calc_init_14 : zdal (zb m_Calc_init) [(0, (.aload_n 0, 1)), (1, (.invokespecial 3, 3)), (4, (.aload_n 0, 1)), (5, (.new 9, 3)), (8, (.dup, 1)), (9, (.bipush 24, 2)), (11, (.invokespecial 11, 3)), (14, (.putfield 14, 3)), (17, (.aload_n 0, 1)), (18, (.aload_n 1, 1)), (19, (.putfield 20, 3)), (22, (.return_, 1))] = true := zYQs 0 (by decide +kernel)
theorem dlA_Troupe_begin_15 : zdal (zb m_Troupe_begin) [(0, (.aload_n 0, 1)), (1, (.getfield 12, 3)), (4, (.iload_n 1, 1)), (5, (.invokevirtual 61, 3)), (8, (.aload_n 0, 1)), (9, (.iconst 0, 1)), (10, (.putfield 64, 3)), (13, (.aload_n 0, 1)), (14, (.iconst 0, 1)), (15, (.putfield 68, 3)), (18, (.aload_n 0, 1)), (19, (.iconst 0, 1)), (20, (.putfield 71, 3)), (23, (.return_, 1))] = true := zYQs 0 (by decide +kernel)
theorem dlA_Group_begin_16 : zdal (zb m_Group_begin) [(0, (.aload_n 0, 1)), (1, (.iload_n 1, 1)), (2, (.putfield 32, 3)), (5, (.aload_n 0, 1)), (6, (.iconst 0, 1)), (7, (.putfield 36, 3)), (10, (.aload_n 0, 1)), (11, (.iconst 0, 1)), (12, (.putfield 39, 3)), (15, (.aload_n 0, 1)), (16, (.invokevirtual 42, 3)), (19, (.pop, 1)), (20, (.return_, 1))] = true := zYQs 0 (by decide +kernel)
theorem dlA_Group_gather_17 : zdal (zb m_Group_gather) [(0, (.iconst 0, 1)), (1, (.istore_n 1, 1)), (2, (.iconst 0, 1)), (3, (.istore_n 2, 1)), (4, (.iload_n 2, 1)), (5, (.aload_n 0, 1)), (6, (.getfield 32, 3)), (9, (.if_icmp .ge 17, 3)), (12, (.iload_n 1, 1)), (13, (.iload_n 2, 1)), (14, (.iload_n 2, 1)), (15, (.invokestatic 50, 3)), (18, (.ior, 1)), (19, (.istore_n 1, 1)), (20, (.iinc 2 1, 3)), (23, (.goto (-19), 3)), (26, (.aload_n 0, 1)), (27, (.getfield 20, 3)), (30, (.iconst 0, 1)), (31, (.iload_n 1, 1)), (32, (.invokevirtual 46, 3)), (35, (.aload_n 0, 1)), (36, (.iconst 1, 1)), (37, (.putfield 39, 3))] = true := zYQs 0 (by decide +kernel)
theorem dlA_Group_gather_18 : zdal (zb m_Group_gather) [(40, (.iconst 0, 1)), (41, (.istore_n 2, 1)), (42, (.iload_n 2, 1)), (43, (.aload_n 0, 1)), (44, (.getfield 39, 3)), (47, (.if_icmp .ge 100, 3)), (50, (.iload_n 2, 1)), (51, (.bipush 24, 2)), (53, (.if_icmp .ge 94, 3)), (56, (.iconst 0, 1)), (57, (.istore_n 3, 1)), (58, (.iload_n 3, 1)), (59, (.aload_n 0, 1)), (60, (.getfield 36, 3)), (63, (.if_icmp .ge 78, 3)), (66, (.aload_n 0, 1)), (67, (.aload_n 0, 1)), (68, (.getfield 20, 3)), (71, (.iload_n 2, 1)), (72, (.invokevirtual 54, 3)), (75, (.aload_n 0, 1)), (76, (.getfield 14, 3)), (79, (.iload_n 3, 1)), (80, (.invokevirtual 54, 3))] = true := zYQs 40 (by decide +kernel)
theorem dlA_Group_gather_19 : zdal (zb m_Group_gather) [(83, (.invokevirtual 58, 3)), (86, (.istore 4, 2)), (88, (.aload_n 0, 1)), (89, (.iload 4, 2)), (91, (.invokevirtual 61, 3)), (94, (.iconst (-1), 1)), (95, (.if_icmp .eq 6, 3)), (98, (.goto 37, 3)), (101, (.aload_n 0, 1)), (102, (.getfield 39, 3)), (105, (.bipush 24, 2)), (107, (.if_icmp .lt 5, 3)), (110, (.iconst 0, 1)), (111, (.ireturn, 1)), (112, (.aload_n 0, 1)), (113, (.getfield 20, 3)), (116, (.aload_n 0, 1)), (117, (.getfield 39, 3)), (120, (.iload 4, 2)), (122, (.invokevirtual 46, 3)), (125, (.aload_n 0, 1)), (126, (.dup, 1)), (127, (.getfield 39, 3)), (130, (.iconst 1, 1))] = true := zYQs 83 (by decide +kernel)
theorem dlA_Group_gather_20 : zdal (zb m_Group_gather) [(131, (.iadd, 1)), (132, (.putfield 39, 3)), (135, (.iinc 3 1, 3)), (138, (.goto (-80), 3)), (141, (.iinc 2 1, 3)), (144, (.goto (-102), 3)), (147, (.iconst 1, 1)), (148, (.ireturn, 1))] = true := zYQs 131 (by decide +kernel)
theorem dlA_T_codeOf_21 : zdal (zb m_T_codeOf) [(0, (.iload_n 0, 1)), (1, (.iconst 3, 1)), (2, (.iconst 5, 1)), (3, (.iload_n 1, 1)), (4, (.isub, 1)), (5, (.imul, 1)), (6, (.ishl, 1)), (7, (.ireturn, 1))] = true := zYQs 0 (by decide +kernel)
theorem dlA_IntRow_put_22 : zdal (zb m_IntRow_put) [(0, (.iload_n 1, 1)), (1, (.ifCond .lt 19, 3)), (4, (.iload_n 1, 1)), (5, (.aload_n 0, 1)), (6, (.getfield 13, 3)), (9, (.arraylength, 1)), (10, (.if_icmp .ge 10, 3)), (13, (.aload_n 0, 1)), (14, (.getfield 13, 3)), (17, (.iload_n 1, 1)), (18, (.iload_n 2, 1)), (19, (.iastore, 1)), (20, (.return_, 1))] = true := zYQs 0 (by decide +kernel)
theorem dlA_IntRow_at_23 : zdal (zb m_IntRow_at) [(0, (.iload_n 1, 1)), (1, (.ifCond .lt 21, 3)), (4, (.iload_n 1, 1)), (5, (.aload_n 0, 1)), (6, (.getfield 13, 3)), (9, (.arraylength, 1)), (10, (.if_icmp .ge 12, 3)), (13, (.aload_n 0, 1)), (14, (.getfield 13, 3)), (17, (.iload_n 1, 1)), (18, (.iaload, 1)), (19, (.goto 4, 3)), (22, (.iconst 0, 1)), (23, (.ireturn, 1))] = true := zYQs 0 (by decide +kernel)
theorem dlA_Group_behind_24 : zdal (zb m_Group_behind) [(0, (.iconst 0, 1)), (1, (.istore_n 3, 1)), (2, (.iconst 0, 1)), (3, (.istore 4, 2)), (5, (.iload 4, 2)), (7, (.aload_n 0, 1)), (8, (.getfield 32, 3)), (11, (.if_icmp .ge 27, 3)), (14, (.iload_n 3, 1)), (15, (.iload_n 2, 1)), (16, (.iload_n 1, 1)), (17, (.iload 4, 2)), (19, (.invokestatic 64, 3)), (22, (.invokestatic 64, 3)), (25, (.iload 4, 2)), (27, (.invokestatic 50, 3)), (30, (.ior, 1)), (31, (.istore_n 3, 1)), (32, (.iinc 4 1, 3)), (35, (.goto (-30), 3)), (38, (.iload_n 3, 1)), (39, (.ireturn, 1))] = true := zYQs 0 (by decide +kernel)
theorem dlA_T_placeIn_25 : zdal (zb m_T_placeIn) [(0, (.iload_n 0, 1)), (1, (.iconst 3, 1)), (2, (.iconst 5, 1)), (3, (.iload_n 1, 1)), (4, (.isub, 1)), (5, (.imul, 1)), (6, (.ishr, 1)), (7, (.bipush 7, 2)), (9, (.iand, 1)), (10, (.ireturn, 1))] = true := zYQs 0 (by decide +kernel)
theorem dlA_Group_indexOf_26 : zdal (zb m_Group_indexOf) [(0, (.iconst 0, 1)), (1, (.istore_n 2, 1)), (2, (.iload_n 2, 1)), (3, (.aload_n 0, 1)), (4, (.getfield 39, 3)), (7, (.if_icmp .ge 23, 3)), (10, (.aload_n 0, 1)), (11, (.getfield 20, 3)), (14, (.iload_n 2, 1)), (15, (.invokevirtual 54, 3)), (18, (.iload_n 1, 1)), (19, (.if_icmp .ne 5, 3)), (22, (.iload_n 2, 1)), (23, (.ireturn, 1)), (24, (.iinc 2 1, 3)), (27, (.goto (-25), 3)), (30, (.iconst (-1), 1)), (31, (.ireturn, 1))] = true := zYQs 0 (by decide +kernel)
theorem dlA_Troupe_settle_27 : zdal (zb m_Troupe_settle) [(0, (.aload_n 0, 1)), (1, (.getfield 12, 3)), (4, (.invokevirtual 74, 3)), (7, (.aload_n 0, 1)), (8, (.getfield 23, 3)), (11, (.invokevirtual 77, 3)), (14, (.aload_n 0, 1)), (15, (.getfield 39, 3)), (18, (.invokevirtual 78, 3)), (21, (.aload_n 0, 1)), (22, (.getfield 32, 3)), (25, (.iconst 0, 1)), (26, (.iconst (-1), 1)), (27, (.lconst 0, 1)), (28, (.invokevirtual 81, 3)), (31, (.return_, 1))] = true := zYQs 0 (by decide +kernel)
theorem dlA_Group_settle_28 : zdal (zb m_Group_settle) [(0, (.iconst 1, 1)), (1, (.istore_n 1, 1)), (2, (.iload_n 1, 1)), (3, (.aload_n 0, 1)), (4, (.getfield 39, 3)), (7, (.if_icmp .ge 71, 3)), (10, (.aload_n 0, 1)), (11, (.getfield 20, 3)), (14, (.iload_n 1, 1)), (15, (.invokevirtual 54, 3)), (18, (.istore_n 2, 1)), (19, (.iload_n 1, 1)), (20, (.istore_n 3, 1)), (21, (.iload_n 3, 1)), (22, (.ifCond .le 41, 3)), (25, (.aload_n 0, 1)), (26, (.getfield 20, 3)), (29, (.iload_n 3, 1)), (30, (.iconst 1, 1)), (31, (.isub, 1)), (32, (.invokevirtual 54, 3)), (35, (.iload_n 2, 1)), (36, (.if_icmp .le 27, 3)), (39, (.aload_n 0, 1))] = true := zYQs 0 (by decide +kernel)
theorem dlA_Group_settle_29 : zdal (zb m_Group_settle) [(40, (.getfield 20, 3)), (43, (.iload_n 3, 1)), (44, (.aload_n 0, 1)), (45, (.getfield 20, 3)), (48, (.iload_n 3, 1)), (49, (.iconst 1, 1)), (50, (.isub, 1)), (51, (.invokevirtual 54, 3)), (54, (.invokevirtual 46, 3)), (57, (.iinc 3 (-1), 3)), (60, (.goto (-39), 3)), (63, (.aload_n 0, 1)), (64, (.getfield 20, 3)), (67, (.iload_n 3, 1)), (68, (.iload_n 2, 1)), (69, (.invokevirtual 46, 3)), (72, (.iinc 1 1, 3)), (75, (.goto (-73), 3)), (78, (.iconst 0, 1)), (79, (.istore_n 1, 1)), (80, (.iload_n 1, 1)), (81, (.aload_n 0, 1)), (82, (.getfield 39, 3)), (85, (.if_icmp .ge 77, 3))] = true := zYQs 40 (by decide +kernel)
theorem dlA_Group_settle_30 : zdal (zb m_Group_settle) [(88, (.iconst 0, 1)), (89, (.istore_n 2, 1)), (90, (.iload_n 2, 1)), (91, (.aload_n 0, 1)), (92, (.getfield 39, 3)), (95, (.if_icmp .ge 61, 3)), (98, (.aload_n 0, 1)), (99, (.aload_n 0, 1)), (100, (.aload_n 0, 1)), (101, (.getfield 20, 3)), (104, (.iload_n 1, 1)), (105, (.invokevirtual 54, 3)), (108, (.aload_n 0, 1)), (109, (.getfield 20, 3)), (112, (.iload_n 2, 1)), (113, (.invokevirtual 54, 3)), (116, (.invokevirtual 58, 3)), (119, (.invokevirtual 61, 3)), (122, (.istore_n 3, 1)), (123, (.aload_n 0, 1)), (124, (.getfield 23, 3)), (127, (.iload_n 1, 1)), (128, (.bipush 24, 2)), (130, (.imul, 1))] = true := zYQs 88 (by decide +kernel)
theorem dlA_Group_settle_31 : zdal (zb m_Group_settle) [(131, (.iload_n 2, 1)), (132, (.iadd, 1)), (133, (.iload_n 3, 1)), (134, (.invokevirtual 46, 3)), (137, (.iload_n 3, 1)), (138, (.ifCond .ne 12, 3)), (141, (.aload_n 0, 1)), (142, (.getfield 26, 3)), (145, (.iload_n 1, 1)), (146, (.iload_n 2, 1)), (147, (.invokevirtual 46, 3)), (150, (.iinc 2 1, 3)), (153, (.goto (-63), 3)), (156, (.iinc 1 1, 3)), (159, (.goto (-79), 3)), (162, (.return_, 1))] = true := zYQs 131 (by decide +kernel)
theorem dlA_Sorts_settle_32 : zdal (zb m_Sorts_settle) [(0, (.aload_n 0, 1)), (1, (.iconst 1, 1)), (2, (.putfield 36, 3)), (5, (.aload_n 0, 1)), (6, (.getfield 14, 3)), (9, (.iconst 0, 1)), (10, (.iconst 1, 1)), (11, (.invokevirtual 40, 3)), (14, (.iconst 0, 1)), (15, (.istore_n 1, 1)), (16, (.iload_n 1, 1)), (17, (.aload_n 0, 1)), (18, (.getfield 36, 3)), (21, (.if_icmp .ge 72, 3)), (24, (.iload_n 1, 1)), (25, (.bipush 35, 2)), (27, (.if_icmp .ge 66, 3)), (30, (.iconst 0, 1)), (31, (.istore_n 2, 1)), (32, (.iload_n 2, 1)), (33, (.aload_n 0, 1)), (34, (.getfield 32, 3)), (37, (.getfield 44, 3)), (40, (.if_icmp .ge 47, 3))] = true := zYQs 0 (by decide +kernel)
theorem dlA_Sorts_settle_33 : zdal (zb m_Sorts_settle) [(43, (.aload_n 0, 1)), (44, (.getfield 14, 3)), (47, (.iload_n 1, 1)), (48, (.invokevirtual 49, 3)), (51, (.iload_n 2, 1)), (52, (.invokestatic 53, 3)), (55, (.ifCond .ne 26, 3)), (58, (.aload_n 0, 1)), (59, (.aload_n 0, 1)), (60, (.getfield 32, 3)), (63, (.aload_n 0, 1)), (64, (.getfield 14, 3)), (67, (.iload_n 1, 1)), (68, (.invokevirtual 49, 3)), (71, (.iconst 1, 1)), (72, (.iload_n 2, 1)), (73, (.ishl, 1)), (74, (.ior, 1)), (75, (.invokevirtual 57, 3)), (78, (.invokevirtual 60, 3)), (81, (.iinc 2 1, 3)), (84, (.goto (-52), 3)), (87, (.iinc 1 1, 3)), (90, (.goto (-74), 3))] = true := zYQs 43 (by decide +kernel)
theorem dlA_Sorts_settle_34 : zdal (zb m_Sorts_settle) [(93, (.aload_n 0, 1)), (94, (.invokevirtual 63, 3)), (97, (.aload_n 0, 1)), (98, (.invokevirtual 66, 3)), (101, (.aload_n 0, 1)), (102, (.invokevirtual 69, 3)), (105, (.return_, 1))] = true := zYQs 93 (by decide +kernel)
theorem dlA_T_isIn_35 : zdal (zb m_T_isIn) [(0, (.iload_n 0, 1)), (1, (.iload_n 1, 1)), (2, (.ishr, 1)), (3, (.iconst 1, 1)), (4, (.iand, 1)), (5, (.ifCond .eq 7, 3)), (8, (.iconst 1, 1)), (9, (.goto 4, 3)), (12, (.iconst 0, 1)), (13, (.ireturn, 1))] = true := zYQs 0 (by decide +kernel)
theorem dlA_Group_spanOf_36 : zdal (zb m_Group_spanOf) [(0, (.iconst 1, 1)), (1, (.istore_n 2, 1)), (2, (.iconst 1, 1)), (3, (.istore_n 3, 1)), (4, (.aload_n 0, 1)), (5, (.getfield 29, 3)), (8, (.iconst 0, 1)), (9, (.iconst 0, 1)), (10, (.invokevirtual 46, 3)), (13, (.iconst 0, 1)), (14, (.istore 4, 2)), (16, (.iload 4, 2)), (18, (.iload_n 3, 1)), (19, (.if_icmp .ge 93, 3)), (22, (.iload 4, 2)), (24, (.bipush 24, 2)), (26, (.if_icmp .ge 86, 3)), (29, (.iconst 0, 1)), (30, (.istore 5, 2)), (32, (.iload 5, 2)), (34, (.aload_n 0, 1)), (35, (.getfield 39, 3)), (38, (.if_icmp .ge 68, 3)), (41, (.iload_n 1, 1))] = true := zYQs 0 (by decide +kernel)
theorem dlA_Group_spanOf_37 : zdal (zb m_Group_spanOf) [(42, (.iload 5, 2)), (44, (.invokestatic 73, 3)), (47, (.ifCond .eq 21, 3)), (50, (.aload_n 0, 1)), (51, (.aload_n 0, 1)), (52, (.getfield 29, 3)), (55, (.iload 4, 2)), (57, (.invokevirtual 54, 3)), (60, (.iload 5, 2)), (62, (.invokevirtual 67, 3)), (65, (.goto 4, 3)), (68, (.iconst 0, 1)), (69, (.istore 6, 2)), (71, (.iload_n 2, 1)), (72, (.iload 6, 2)), (74, (.invokestatic 73, 3)), (77, (.ifCond .ne 23, 3)), (80, (.iload_n 2, 1)), (81, (.iconst 1, 1)), (82, (.iload 6, 2)), (84, (.ishl, 1)), (85, (.ior, 1)), (86, (.istore_n 2, 1)), (87, (.aload_n 0, 1))] = true := zYQs 42 (by decide +kernel)
theorem d_Group_spanOf_77 : decode (zb m_Group_spanOf) 77 = .ok (.ifCond .ne 23, 3) := zdal_p dlA_Group_spanOf_37 (i := 16) rfl
theorem dlA_Group_spanOf_38 : zdal (zb m_Group_spanOf) [(88, (.getfield 29, 3)), (91, (.iload_n 3, 1)), (92, (.iload 6, 2)), (94, (.invokevirtual 46, 3)), (97, (.iinc 3 1, 3)), (100, (.iinc 5 1, 3)), (103, (.goto (-71), 3)), (106, (.iinc 4 1, 3)), (109, (.goto (-93), 3)), (112, (.iload_n 2, 1)), (113, (.ireturn, 1))] = true := zYQs 88 (by decide +kernel)
theorem d_Group_spanOf_100 : decode (zb m_Group_spanOf) 100 = .ok (.iinc 5 1, 3) := zdal_p dlA_Group_spanOf_38 (i := 5) rfl
theorem d_Group_spanOf_103 : decode (zb m_Group_spanOf) 103 = .ok (.goto (-71), 3) := zdal_p dlA_Group_spanOf_38 (i := 6) rfl
theorem dlA_Group_both_39 : zdal (zb m_Group_both) [(0, (.aload_n 0, 1)), (1, (.getfield 23, 3)), (4, (.iload_n 1, 1)), (5, (.bipush 24, 2)), (7, (.imul, 1)), (8, (.iload_n 2, 1)), (9, (.iadd, 1)), (10, (.invokevirtual 54, 3)), (13, (.ireturn, 1))] = true := zYQs 0 (by decide +kernel)
theorem dlA_Sorts_addSubgroup_40 : zdal (zb m_Sorts_addSubgroup) [(0, (.aload_n 0, 1)), (1, (.iload_n 1, 1)), (2, (.invokevirtual 72, 3)), (5, (.iconst (-1), 1)), (6, (.if_icmp .ne 34, 3)), (9, (.aload_n 0, 1)), (10, (.getfield 36, 3)), (13, (.bipush 35, 2)), (15, (.if_icmp .ge 25, 3)), (18, (.aload_n 0, 1)), (19, (.getfield 14, 3)), (22, (.aload_n 0, 1)), (23, (.getfield 36, 3)), (26, (.iload_n 1, 1)), (27, (.invokevirtual 40, 3)), (30, (.aload_n 0, 1)), (31, (.dup, 1)), (32, (.getfield 36, 3)), (35, (.iconst 1, 1)), (36, (.iadd, 1)), (37, (.putfield 36, 3)), (40, (.return_, 1))] = true := zYQs 0 (by decide +kernel)
theorem d_Sorts_addSubgroup_40 : decode (zb m_Sorts_addSubgroup) 40 = .ok (.return_, 1) := zdal_p dlA_Sorts_addSubgroup_40 (i := 21) rfl
theorem dlA_Sorts_indexOf_41 : zdal (zb m_Sorts_indexOf) [(0, (.iconst 0, 1)), (1, (.istore_n 2, 1)), (2, (.iload_n 2, 1)), (3, (.aload_n 0, 1)), (4, (.getfield 36, 3)), (7, (.if_icmp .ge 23, 3)), (10, (.aload_n 0, 1)), (11, (.getfield 14, 3)), (14, (.iload_n 2, 1)), (15, (.invokevirtual 49, 3)), (18, (.iload_n 1, 1)), (19, (.if_icmp .ne 5, 3)), (22, (.iload_n 2, 1)), (23, (.ireturn, 1)), (24, (.iinc 2 1, 3)), (27, (.goto (-25), 3)), (30, (.iconst (-1), 1)), (31, (.ireturn, 1))] = true := zYQs 0 (by decide +kernel)
theorem dlA_Sorts_arrange_42 : zdal (zb m_Sorts_arrange) [(0, (.iconst 1, 1)), (1, (.istore_n 1, 1)), (2, (.iload_n 1, 1)), (3, (.aload_n 0, 1)), (4, (.getfield 36, 3)), (7, (.if_icmp .ge 74, 3)), (10, (.aload_n 0, 1)), (11, (.getfield 14, 3)), (14, (.iload_n 1, 1)), (15, (.invokevirtual 49, 3)), (18, (.istore_n 2, 1)), (19, (.iload_n 1, 1)), (20, (.istore_n 3, 1)), (21, (.iload_n 3, 1)), (22, (.ifCond .le 44, 3)), (25, (.iload_n 2, 1)), (26, (.aload_n 0, 1)), (27, (.getfield 14, 3)), (30, (.iload_n 3, 1)), (31, (.iconst 1, 1)), (32, (.isub, 1)), (33, (.invokevirtual 49, 3)), (36, (.invokestatic 75, 3)), (39, (.ifCond .eq 27, 3))] = true := zYQs 0 (by decide +kernel)
theorem dlA_Sorts_arrange_43 : zdal (zb m_Sorts_arrange) [(42, (.aload_n 0, 1)), (43, (.getfield 14, 3)), (46, (.iload_n 3, 1)), (47, (.aload_n 0, 1)), (48, (.getfield 14, 3)), (51, (.iload_n 3, 1)), (52, (.iconst 1, 1)), (53, (.isub, 1)), (54, (.invokevirtual 49, 3)), (57, (.invokevirtual 40, 3)), (60, (.iinc 3 (-1), 3)), (63, (.goto (-42), 3)), (66, (.aload_n 0, 1)), (67, (.getfield 14, 3)), (70, (.iload_n 3, 1)), (71, (.iload_n 2, 1)), (72, (.invokevirtual 40, 3)), (75, (.iinc 1 1, 3)), (78, (.goto (-76), 3)), (81, (.return_, 1))] = true := zYQs 42 (by decide +kernel)
theorem dlA_Sorts_isAhead_44 : zdal (zb m_Sorts_isAhead) [(0, (.iload_n 0, 1)), (1, (.invokestatic 78, 3)), (4, (.iload_n 1, 1)), (5, (.invokestatic 78, 3)), (8, (.isub, 1)), (9, (.istore_n 2, 1)), (10, (.iload_n 2, 1)), (11, (.ifCond .lt 12, 3)), (14, (.iload_n 2, 1)), (15, (.ifCond .ne 12, 3)), (18, (.iload_n 0, 1)), (19, (.iload_n 1, 1)), (20, (.if_icmp .ge 7, 3)), (23, (.iconst 1, 1)), (24, (.goto 4, 3)), (27, (.iconst 0, 1)), (28, (.ireturn, 1))] = true := zYQs 0 (by decide +kernel)
theorem dlA_Sorts_numberSorts_45 : zdal (zb m_Sorts_numberSorts) [(0, (.aload_n 0, 1)), (1, (.iconst 0, 1)), (2, (.putfield 83, 3)), (5, (.iconst 0, 1)), (6, (.istore_n 1, 1)), (7, (.iload_n 1, 1)), (8, (.aload_n 0, 1)), (9, (.getfield 36, 3)), (12, (.if_icmp .ge 18, 3)), (15, (.aload_n 0, 1)), (16, (.getfield 20, 3)), (19, (.iload_n 1, 1)), (20, (.iconst (-1), 1)), (21, (.invokevirtual 40, 3)), (24, (.iinc 1 1, 3)), (27, (.goto (-20), 3)), (30, (.iconst 0, 1)), (31, (.istore_n 1, 1)), (32, (.iload_n 1, 1)), (33, (.aload_n 0, 1)), (34, (.getfield 36, 3)), (37, (.if_icmp .ge 112, 3)), (40, (.aload_n 0, 1)), (41, (.getfield 20, 3))] = true := zYQs 0 (by decide +kernel)
theorem dlA_Sorts_numberSorts_46 : zdal (zb m_Sorts_numberSorts) [(44, (.iload_n 1, 1)), (45, (.invokevirtual 49, 3)), (48, (.iconst (-1), 1)), (49, (.if_icmp .ne 94, 3)), (52, (.aload_n 0, 1)), (53, (.getfield 83, 3)), (56, (.bipush 27, 2)), (58, (.if_icmp .lt 6, 3)), (61, (.goto 82, 3)), (64, (.aload_n 0, 1)), (65, (.getfield 26, 3)), (68, (.aload_n 0, 1)), (69, (.getfield 83, 3)), (72, (.aload_n 0, 1)), (73, (.getfield 14, 3)), (76, (.iload_n 1, 1)), (77, (.invokevirtual 49, 3)), (80, (.invokevirtual 40, 3)), (83, (.iconst 0, 1)), (84, (.istore_n 2, 1)), (85, (.iload_n 2, 1)), (86, (.aload_n 0, 1)), (87, (.getfield 32, 3)), (90, (.getfield 44, 3))] = true := zYQs 44 (by decide +kernel)
theorem dlA_Sorts_numberSorts_47 : zdal (zb m_Sorts_numberSorts) [(93, (.if_icmp .ge 40, 3)), (96, (.aload_n 0, 1)), (97, (.getfield 20, 3)), (100, (.aload_n 0, 1)), (101, (.aload_n 0, 1)), (102, (.getfield 32, 3)), (105, (.aload_n 0, 1)), (106, (.getfield 14, 3)), (109, (.iload_n 1, 1)), (110, (.invokevirtual 49, 3)), (113, (.iload_n 2, 1)), (114, (.invokevirtual 86, 3)), (117, (.invokevirtual 72, 3)), (120, (.aload_n 0, 1)), (121, (.getfield 83, 3)), (124, (.invokevirtual 40, 3)), (127, (.iinc 2 1, 3)), (130, (.goto (-45), 3)), (133, (.aload_n 0, 1)), (134, (.dup, 1)), (135, (.getfield 83, 3)), (138, (.iconst 1, 1)), (139, (.iadd, 1)), (140, (.putfield 83, 3))] = true := zYQs 93 (by decide +kernel)
theorem dlA_Sorts_numberSorts_48 : zdal (zb m_Sorts_numberSorts) [(143, (.iinc 1 1, 3)), (146, (.goto (-114), 3)), (149, (.return_, 1))] = true := zYQs 143 (by decide +kernel)
theorem dlA_Group_turnAll_49 : zdal (zb m_Group_turnAll) [(0, (.iconst 0, 1)), (1, (.istore_n 3, 1)), (2, (.iconst 0, 1)), (3, (.istore 4, 2)), (5, (.iload 4, 2)), (7, (.aload_n 0, 1)), (8, (.getfield 39, 3)), (11, (.if_icmp .ge 30, 3)), (14, (.iload_n 1, 1)), (15, (.iload 4, 2)), (17, (.invokestatic 73, 3)), (20, (.ifCond .eq 15, 3)), (23, (.iload_n 3, 1)), (24, (.iconst 1, 1)), (25, (.aload_n 0, 1)), (26, (.iload 4, 2)), (28, (.iload_n 2, 1)), (29, (.invokevirtual 77, 3)), (32, (.ishl, 1)), (33, (.ior, 1)), (34, (.istore_n 3, 1)), (35, (.iinc 4 1, 3)), (38, (.goto (-33), 3)), (41, (.iload_n 3, 1))] = true := zYQs 0 (by decide +kernel)
theorem dlA_Group_turnAll_50 : zdal (zb m_Group_turnAll) [(42, (.ireturn, 1))] = true := zYQs 42 (by decide +kernel)
theorem dlA_Group_turn_51 : zdal (zb m_Group_turn) [(0, (.aload_n 0, 1)), (1, (.getfield 23, 3)), (4, (.aload_n 0, 1)), (5, (.getfield 26, 3)), (8, (.iload_n 2, 1)), (9, (.invokevirtual 54, 3)), (12, (.bipush 24, 2)), (14, (.imul, 1)), (15, (.iload_n 1, 1)), (16, (.iadd, 1)), (17, (.invokevirtual 54, 3)), (20, (.istore_n 3, 1)), (21, (.aload_n 0, 1)), (22, (.getfield 23, 3)), (25, (.iload_n 3, 1)), (26, (.bipush 24, 2)), (28, (.imul, 1)), (29, (.iload_n 2, 1)), (30, (.iadd, 1)), (31, (.invokevirtual 54, 3)), (34, (.ireturn, 1))] = true := zYQs 0 (by decide +kernel)
theorem dlA_Sorts_fillTable_52 : zdal (zb m_Sorts_fillTable) [(0, (.iconst 0, 1)), (1, (.istore_n 1, 1)), (2, (.iload_n 1, 1)), (3, (.aload_n 0, 1)), (4, (.getfield 83, 3)), (7, (.if_icmp .ge 136, 3)), (10, (.iconst 0, 1)), (11, (.istore_n 2, 1)), (12, (.iload_n 2, 1)), (13, (.aload_n 0, 1)), (14, (.getfield 83, 3)), (17, (.if_icmp .ge 23, 3)), (20, (.aload_n 0, 1)), (21, (.getfield 29, 3)), (24, (.iload_n 2, 1)), (25, (.bipush 27, 2)), (27, (.imul, 1)), (28, (.iload_n 1, 1)), (29, (.iadd, 1)), (30, (.iconst 0, 1)), (31, (.invokevirtual 40, 3)), (34, (.iinc 2 1, 3)), (37, (.goto (-25), 3)), (40, (.iconst 0, 1))] = true := zYQs 0 (by decide +kernel)
theorem dlA_Sorts_fillTable_53 : zdal (zb m_Sorts_fillTable) [(41, (.istore_n 2, 1)), (42, (.iload_n 2, 1)), (43, (.aload_n 0, 1)), (44, (.getfield 32, 3)), (47, (.getfield 44, 3)), (50, (.if_icmp .ge 30, 3)), (53, (.aload_n 0, 1)), (54, (.aload_n 0, 1)), (55, (.getfield 32, 3)), (58, (.aload_n 0, 1)), (59, (.getfield 26, 3)), (62, (.iload_n 1, 1)), (63, (.invokevirtual 49, 3)), (66, (.iload_n 2, 1)), (67, (.invokevirtual 86, 3)), (70, (.iload_n 1, 1)), (71, (.invokevirtual 90, 3)), (74, (.iinc 2 1, 3)), (77, (.goto (-35), 3)), (80, (.iconst 0, 1)), (81, (.istore_n 2, 1)), (82, (.iload_n 2, 1)), (83, (.aload_n 0, 1)), (84, (.getfield 83, 3))] = true := zYQs 41 (by decide +kernel)
theorem dlA_Sorts_fillTable_54 : zdal (zb m_Sorts_fillTable) [(87, (.if_icmp .ge 50, 3)), (90, (.aload_n 0, 1)), (91, (.getfield 26, 3)), (94, (.iload_n 2, 1)), (95, (.invokevirtual 49, 3)), (98, (.invokestatic 78, 3)), (101, (.istore_n 3, 1)), (102, (.aload_n 0, 1)), (103, (.getfield 29, 3)), (106, (.iload_n 2, 1)), (107, (.bipush 27, 2)), (109, (.imul, 1)), (110, (.iload_n 1, 1)), (111, (.iadd, 1)), (112, (.iload_n 3, 1)), (113, (.ifCond .le 14, 3)), (116, (.aload_n 0, 1)), (117, (.iload_n 2, 1)), (118, (.iload_n 1, 1)), (119, (.invokevirtual 93, 3)), (122, (.iload_n 3, 1)), (123, (.idiv, 1)), (124, (.goto 4, 3)), (127, (.iconst 0, 1))] = true := zYQs 87 (by decide +kernel)
theorem dlA_Sorts_fillTable_55 : zdal (zb m_Sorts_fillTable) [(128, (.invokevirtual 40, 3)), (131, (.iinc 2 1, 3)), (134, (.goto (-52), 3)), (137, (.iinc 1 1, 3)), (140, (.goto (-138), 3)), (143, (.return_, 1))] = true := zYQs 128 (by decide +kernel)
theorem dlA_Sorts_countTurned_56 : zdal (zb m_Sorts_countTurned) [(0, (.iconst 0, 1)), (1, (.istore_n 3, 1)), (2, (.iload_n 3, 1)), (3, (.aload_n 0, 1)), (4, (.getfield 83, 3)), (7, (.if_icmp .ge 45, 3)), (10, (.iload_n 1, 1)), (11, (.aload_n 0, 1)), (12, (.getfield 26, 3)), (15, (.iload_n 3, 1)), (16, (.invokevirtual 49, 3)), (19, (.invokestatic 96, 3)), (22, (.ifCond .eq 24, 3)), (25, (.aload_n 0, 1)), (26, (.getfield 29, 3)), (29, (.iload_n 3, 1)), (30, (.bipush 27, 2)), (32, (.imul, 1)), (33, (.iload_n 2, 1)), (34, (.iadd, 1)), (35, (.aload_n 0, 1)), (36, (.iload_n 3, 1)), (37, (.iload_n 2, 1)), (38, (.invokevirtual 93, 3))] = true := zYQs 0 (by decide +kernel)
theorem dlA_Sorts_countTurned_57 : zdal (zb m_Sorts_countTurned) [(41, (.iconst 1, 1)), (42, (.iadd, 1)), (43, (.invokevirtual 40, 3)), (46, (.iinc 3 1, 3)), (49, (.goto (-47), 3)), (52, (.return_, 1))] = true := zYQs 41 (by decide +kernel)
theorem dlA_T_isPart_58 : zdal (zb m_T_isPart) [(0, (.iload_n 0, 1)), (1, (.iload_n 1, 1)), (2, (.iconst (-1), 1)), (3, (.ixor, 1)), (4, (.iand, 1)), (5, (.ifCond .ne 7, 3)), (8, (.iconst 1, 1)), (9, (.goto 4, 3)), (12, (.iconst 0, 1)), (13, (.ireturn, 1))] = true := zYQs 0 (by decide +kernel)
theorem dlA_Sorts_markAt_59 : zdal (zb m_Sorts_markAt) [(0, (.aload_n 0, 1)), (1, (.getfield 29, 3)), (4, (.iload_n 1, 1)), (5, (.bipush 27, 2)), (7, (.imul, 1)), (8, (.iload_n 2, 1)), (9, (.iadd, 1)), (10, (.invokevirtual 49, 3)), (13, (.ireturn, 1))] = true := zYQs 0 (by decide +kernel)
theorem dlA_Units_forget_60 : zdal (zb m_Units_forget) [(0, (.aload_n 0, 1)), (1, (.iconst 0, 1)), (2, (.putfield 27, 3)), (5, (.return_, 1))] = true := zYQs 0 (by decide +kernel)
theorem dlA_Sums_putSingle_61 : zdal (zb m_Sums_putSingle) [(0, (.iconst 0, 1)), (1, (.istore 5, 2)), (3, (.iload 5, 2)), (5, (.aload_n 0, 1)), (6, (.getfield 23, 3)), (9, (.getfield 35, 3)), (12, (.if_icmp .ge 34, 3)), (15, (.aload_n 0, 1)), (16, (.getfield 16, 3)), (19, (.iload_n 1, 1)), (20, (.bipush 27, 2)), (22, (.imul, 1)), (23, (.iload 5, 2)), (25, (.iadd, 1)), (26, (.iload 5, 2)), (28, (.iload_n 2, 1)), (29, (.if_icmp .ne 7, 3)), (32, (.lload_n 3, 1)), (33, (.goto 4, 3)), (36, (.lconst 0, 1)), (37, (.invokevirtual 31, 3)), (40, (.iinc 5 1, 3)), (43, (.goto (-40), 3)), (46, (.return_, 1))] = true := zYQs 0 (by decide +kernel)
theorem dlA_LongRow_put_62 : zdal (zb m_LongRow_put) [(0, (.iload_n 1, 1)), (1, (.ifCond .lt 19, 3)), (4, (.iload_n 1, 1)), (5, (.aload_n 0, 1)), (6, (.getfield 13, 3)), (9, (.arraylength, 1)), (10, (.if_icmp .ge 10, 3)), (13, (.aload_n 0, 1)), (14, (.getfield 13, 3)), (17, (.iload_n 1, 1)), (18, (.lload_n 2, 1)), (19, (.lastore, 1)), (20, (.return_, 1))] = true := zYQs 0 (by decide +kernel)
theorem dlA_T_feed_63 : zdal (zb m_T_feed) [(0, (.aload_n 0, 1)), (1, (.getfield 10, 3)), (4, (.getfield 42, 3)), (7, (.bipush 20, 2)), (9, (.iadd, 1)), (10, (.sipush 700, 3)), (13, (.if_icmp .le 5, 3)), (16, (.iconst (-1), 1)), (17, (.ireturn, 1)), (18, (.aload_n 0, 1)), (19, (.getfield 10, 3)), (22, (.iload_n 1, 1)), (23, (.invokevirtual 46, 3)), (26, (.aload_n 0, 1)), (27, (.getfield 10, 3)), (30, (.iload_n 2, 1)), (31, (.invokevirtual 46, 3)), (34, (.aload_n 0, 1)), (35, (.getfield 10, 3)), (38, (.iload_n 3, 1)), (39, (.invokevirtual 46, 3)), (42, (.aload_n 0, 1)), (43, (.getfield 10, 3)), (46, (.iload 4, 2))] = true := zYQs 0 (by decide +kernel)
theorem dlA_T_feed_64 : zdal (zb m_T_feed) [(48, (.invokevirtual 46, 3)), (51, (.aload_n 0, 1)), (52, (.getfield 10, 3)), (55, (.iload 5, 2)), (57, (.invokevirtual 46, 3)), (60, (.aload_n 0, 1)), (61, (.getfield 10, 3)), (64, (.getfield 42, 3)), (67, (.ireturn, 1))] = true := zYQs 48 (by decide +kernel)
theorem dlA_Tokens_append_65 : zdal (zb m_Tokens_append) [(0, (.bipush 24, 2)), (2, (.istore_n 2, 1)), (3, (.iload_n 2, 1)), (4, (.ifCond .lt 37, 3)), (7, (.aload_n 0, 1)), (8, (.getfield 14, 3)), (11, (.aload_n 0, 1)), (12, (.getfield 20, 3)), (15, (.iload_n 1, 1)), (16, (.iload_n 2, 1)), (17, (.ishr, 1)), (18, (.sipush 255, 3)), (21, (.iand, 1)), (22, (.invokevirtual 24, 3)), (25, (.aload_n 0, 1)), (26, (.dup, 1)), (27, (.getfield 20, 3)), (30, (.iconst 1, 1)), (31, (.iadd, 1)), (32, (.putfield 20, 3)), (35, (.iinc 2 (-8), 3)), (38, (.goto (-35), 3)), (41, (.return_, 1))] = true := zYQs 0 (by decide +kernel)
theorem dlA_T_end_66 : zdal (zb m_T_end) [(0, (.iload_n 1, 1)), (1, (.ifCond .lt 14, 3)), (4, (.iload_n 1, 1)), (5, (.aload_n 0, 1)), (6, (.getfield 10, 3)), (9, (.getfield 42, 3)), (12, (.if_icmp .le 5, 3)), (15, (.iconst (-1), 1)), (16, (.ireturn, 1)), (17, (.aload_n 0, 1)), (18, (.getfield 10, 3)), (21, (.iload_n 1, 1)), (22, (.putfield 42, 3)), (25, (.iload_n 1, 1)), (26, (.ireturn, 1))] = true := zYQs 0 (by decide +kernel)
theorem dlA_T_troupe_67 : zdal (zb m_T_troupe) [(0, (.aload_n 0, 1)), (1, (.getfield 32, 3)), (4, (.astore_n 1, 1)), (5, (.aload_n 0, 1)), (6, (.getfield 21, 3)), (9, (.invokevirtual 49, 3)), (12, (.aload_n 0, 1)), (13, (.getfield 21, 3)), (16, (.aload_n 1, 1)), (17, (.invokevirtual 51, 3)), (20, (.ifCond .eq 18, 3)), (23, (.aload_n 0, 1)), (24, (.getfield 21, 3)), (27, (.aload_n 1, 1)), (28, (.invokevirtual 55, 3)), (31, (.ifCond .eq 7, 3)), (34, (.iconst 1, 1)), (35, (.goto 4, 3)), (38, (.iconst 0, 1)), (39, (.istore_n 2, 1)), (40, (.iload_n 2, 1)), (41, (.ifCond .eq 16, 3)), (44, (.aload_n 1, 1)), (45, (.invokevirtual 39, 3))] = true := zYQs 0 (by decide +kernel)
theorem dlA_T_troupe_68 : zdal (zb m_T_troupe) [(48, (.aload_n 0, 1)), (49, (.getfield 21, 3)), (52, (.aload_n 1, 1)), (53, (.invokevirtual 58, 3)), (56, (.istore_n 2, 1)), (57, (.aload_n 0, 1)), (58, (.getfield 10, 3)), (61, (.iconst 0, 1)), (62, (.putfield 42, 3)), (65, (.iload_n 2, 1)), (66, (.ifCond .ne 5, 3)), (69, (.iconst (-1), 1)), (70, (.ireturn, 1)), (71, (.aload_n 0, 1)), (72, (.aload_n 0, 1)), (73, (.getfield 28, 3)), (76, (.putfield 32, 3)), (79, (.aload_n 0, 1)), (80, (.aload_n 1, 1)), (81, (.putfield 28, 3)), (84, (.aload_n 0, 1)), (85, (.getfield 28, 3)), (88, (.getfield 61, 3)), (91, (.getfield 65, 3))] = true := zYQs 48 (by decide +kernel)
theorem dlA_T_troupe_69 : zdal (zb m_T_troupe) [(94, (.ireturn, 1))] = true := zYQs 94 (by decide +kernel)
theorem dlA_Reader_begin_70 : zdal (zb m_Reader_begin) [(0, (.aload_n 0, 1)), (1, (.iconst 0, 1)), (2, (.putfield 19, 3)), (5, (.aload_n 0, 1)), (6, (.iconst (-1), 1)), (7, (.putfield 9, 3)), (10, (.aload_n 0, 1)), (11, (.getfield 15, 3)), (14, (.invokevirtual 22, 3)), (17, (.return_, 1))] = true := zYQs 0 (by decide +kernel)
theorem dlA_Tokens_rewind_71 : zdal (zb m_Tokens_rewind) [(0, (.aload_n 0, 1)), (1, (.iconst 0, 1)), (2, (.putfield 28, 3)), (5, (.aload_n 0, 1)), (6, (.invokevirtual 31, 3)), (9, (.return_, 1))] = true := zYQs 0 (by decide +kernel)
theorem dlA_Tokens_step_72 : zdal (zb m_Tokens_step) [(0, (.aload_n 0, 1)), (1, (.aload_n 0, 1)), (2, (.aload_n 0, 1)), (3, (.getfield 28, 3)), (6, (.invokevirtual 34, 3)), (9, (.putfield 38, 3)), (12, (.aload_n 0, 1)), (13, (.aload_n 0, 1)), (14, (.getfield 38, 3)), (17, (.putfield 28, 3)), (20, (.aload_n 0, 1)), (21, (.iconst 0, 1)), (22, (.putfield 41, 3)), (25, (.aload_n 0, 1)), (26, (.getfield 38, 3)), (29, (.aload_n 0, 1)), (30, (.getfield 20, 3)), (33, (.if_icmp .lt 11, 3)), (36, (.aload_n 0, 1)), (37, (.iconst 0, 1)), (38, (.putfield 44, 3)), (41, (.goto 95, 3)), (44, (.aload_n 0, 1)), (45, (.getfield 14, 3))] = true := zYQs 0 (by decide +kernel)
theorem dlA_Tokens_step_73 : zdal (zb m_Tokens_step) [(48, (.aload_n 0, 1)), (49, (.getfield 38, 3)), (52, (.invokevirtual 47, 3)), (55, (.invokestatic 50, 3)), (58, (.ifCond .eq 10, 3)), (61, (.aload_n 0, 1)), (62, (.invokevirtual 54, 3)), (65, (.goto 71, 3)), (68, (.aload_n 0, 1)), (69, (.getfield 14, 3)), (72, (.aload_n 0, 1)), (73, (.getfield 38, 3)), (76, (.invokevirtual 47, 3)), (79, (.invokestatic 57, 3)), (82, (.ifCond .eq 10, 3)), (85, (.aload_n 0, 1)), (86, (.invokevirtual 60, 3)), (89, (.goto 47, 3)), (92, (.aload_n 0, 1)), (93, (.aload_n 0, 1)), (94, (.getfield 14, 3)), (97, (.aload_n 0, 1)), (98, (.getfield 38, 3)), (101, (.invokevirtual 47, 3))] = true := zYQs 48 (by decide +kernel)
theorem dlA_Tokens_step_74 : zdal (zb m_Tokens_step) [(104, (.putfield 41, 3)), (107, (.aload_n 0, 1)), (108, (.aload_n 0, 1)), (109, (.getfield 41, 3)), (112, (.invokestatic 63, 3)), (115, (.ifCond .eq 7, 3)), (118, (.iconst 3, 1)), (119, (.goto 4, 3)), (122, (.iconst 4, 1)), (123, (.putfield 44, 3)), (126, (.aload_n 0, 1)), (127, (.aload_n 0, 1)), (128, (.getfield 38, 3)), (131, (.iconst 1, 1)), (132, (.iadd, 1)), (133, (.putfield 28, 3)), (136, (.return_, 1))] = true := zYQs 104 (by decide +kernel)
theorem d_Tokens_step_136 : decode (zb m_Tokens_step) 136 = .ok (.return_, 1) := zdal_p dlA_Tokens_step_74 (i := 16) rfl
theorem dlA_Tokens_pastBlanks_75 : zdal (zb m_Tokens_pastBlanks) [(0, (.iload_n 1, 1)), (1, (.istore_n 2, 1)), (2, (.iload_n 2, 1)), (3, (.aload_n 0, 1)), (4, (.getfield 20, 3)), (7, (.if_icmp .ge 23, 3)), (10, (.aload_n 0, 1)), (11, (.getfield 14, 3)), (14, (.iload_n 2, 1)), (15, (.invokevirtual 47, 3)), (18, (.invokestatic 73, 3)), (21, (.ifCond .eq 9, 3)), (24, (.iinc 2 1, 3)), (27, (.goto (-25), 3)), (30, (.iload_n 2, 1)), (31, (.ireturn, 1))] = true := zYQs 0 (by decide +kernel)
theorem dlA_Tokens_isBlank_76 : zdal (zb m_Tokens_isBlank) [(0, (.iload_n 0, 1)), (1, (.bipush 32, 2)), (3, (.if_icmp .eq 9, 3)), (6, (.iload_n 0, 1)), (7, (.bipush 10, 2)), (9, (.if_icmp .ne 7, 3)), (12, (.iconst 1, 1)), (13, (.goto 4, 3)), (16, (.iconst 0, 1)), (17, (.ireturn, 1))] = true := zYQs 0 (by decide +kernel)
theorem d_Tokens_isBlank_17 : decode (zb m_Tokens_isBlank) 17 = .ok (.ireturn, 1) := zdal_p dlA_Tokens_isBlank_76 (i := 9) rfl
theorem dlA_Tokens_isLetter_77 : zdal (zb m_Tokens_isLetter) [(0, (.iload_n 0, 1)), (1, (.bipush 97, 2)), (3, (.if_icmp .lt 13, 3)), (6, (.iload_n 0, 1)), (7, (.bipush 122, 2)), (9, (.if_icmp .gt 7, 3)), (12, (.iconst 1, 1)), (13, (.goto 4, 3)), (16, (.iconst 0, 1)), (17, (.ireturn, 1))] = true := zYQs 0 (by decide +kernel)
theorem d_Tokens_isLetter_17 : decode (zb m_Tokens_isLetter) 17 = .ok (.ireturn, 1) := zdal_p dlA_Tokens_isLetter_77 (i := 9) rfl
theorem dlA_Tokens_readWord_78 : zdal (zb m_Tokens_readWord) [(0, (.aload_n 0, 1)), (1, (.getfield 28, 3)), (4, (.aload_n 0, 1)), (5, (.getfield 20, 3)), (8, (.if_icmp .ge 61, 3)), (11, (.aload_n 0, 1)), (12, (.getfield 14, 3)), (15, (.aload_n 0, 1)), (16, (.getfield 28, 3)), (19, (.invokevirtual 47, 3)), (22, (.invokestatic 50, 3)), (25, (.ifCond .eq 44, 3)), (28, (.aload_n 0, 1)), (29, (.aload_n 0, 1)), (30, (.getfield 41, 3)), (33, (.bipush 27, 2)), (35, (.imul, 1)), (36, (.aload_n 0, 1)), (37, (.getfield 14, 3)), (40, (.aload_n 0, 1)), (41, (.getfield 28, 3)), (44, (.invokevirtual 47, 3)), (47, (.iadd, 1)), (48, (.bipush 97, 2))] = true := zYQs 0 (by decide +kernel)
theorem dlA_Tokens_readWord_79 : zdal (zb m_Tokens_readWord) [(50, (.isub, 1)), (51, (.iconst 1, 1)), (52, (.iadd, 1)), (53, (.putfield 41, 3)), (56, (.aload_n 0, 1)), (57, (.dup, 1)), (58, (.getfield 28, 3)), (61, (.iconst 1, 1)), (62, (.iadd, 1)), (63, (.putfield 28, 3)), (66, (.goto (-66), 3)), (69, (.aload_n 0, 1)), (70, (.aload_n 0, 1)), (71, (.getfield 28, 3)), (74, (.aload_n 0, 1)), (75, (.getfield 38, 3)), (78, (.isub, 1)), (79, (.bipush 6, 2)), (81, (.if_icmp .gt 7, 3)), (84, (.iconst 1, 1)), (85, (.goto 4, 3)), (88, (.iconst 4, 1)), (89, (.putfield 44, 3)), (92, (.return_, 1))] = true := zYQs 50 (by decide +kernel)
theorem d_Tokens_readWord_89 : decode (zb m_Tokens_readWord) 89 = .ok (.putfield 44, 3) := zdal_p dlA_Tokens_readWord_79 (i := 22) rfl
theorem d_Tokens_readWord_92 : decode (zb m_Tokens_readWord) 92 = .ok (.return_, 1) := zdal_p dlA_Tokens_readWord_79 (i := 23) rfl
theorem dlA_Tokens_isDigit_80 : zdal (zb m_Tokens_isDigit) [(0, (.iload_n 0, 1)), (1, (.bipush 48, 2)), (3, (.if_icmp .lt 13, 3)), (6, (.iload_n 0, 1)), (7, (.bipush 57, 2)), (9, (.if_icmp .gt 7, 3)), (12, (.iconst 1, 1)), (13, (.goto 4, 3)), (16, (.iconst 0, 1)), (17, (.ireturn, 1))] = true := zYQs 0 (by decide +kernel)
theorem d_Tokens_isDigit_17 : decode (zb m_Tokens_isDigit) 17 = .ok (.ireturn, 1) := zdal_p dlA_Tokens_isDigit_80 (i := 9) rfl
theorem dlA_Tokens_readNumber_81 : zdal (zb m_Tokens_readNumber) [(0, (.aload_n 0, 1)), (1, (.aload_n 0, 1)), (2, (.aload_n 0, 1)), (3, (.getfield 38, 3)), (6, (.invokevirtual 66, 3)), (9, (.putfield 28, 3)), (12, (.aload_n 0, 1)), (13, (.aload_n 0, 1)), (14, (.aload_n 0, 1)), (15, (.getfield 38, 3)), (18, (.aload_n 0, 1)), (19, (.getfield 28, 3)), (22, (.invokevirtual 69, 3)), (25, (.putfield 41, 3)), (28, (.aload_n 0, 1)), (29, (.getfield 28, 3)), (32, (.aload_n 0, 1)), (33, (.getfield 20, 3)), (36, (.if_icmp .ge 24, 3)), (39, (.aload_n 0, 1)), (40, (.getfield 14, 3)), (43, (.aload_n 0, 1)), (44, (.getfield 28, 3)), (47, (.invokevirtual 47, 3))] = true := zYQs 0 (by decide +kernel)
theorem dlA_Tokens_readNumber_82 : zdal (zb m_Tokens_readNumber) [(50, (.invokestatic 50, 3)), (53, (.ifCond .eq 7, 3)), (56, (.iconst 1, 1)), (57, (.goto 4, 3)), (60, (.iconst 0, 1)), (61, (.istore_n 1, 1)), (62, (.aload_n 0, 1)), (63, (.aload_n 0, 1)), (64, (.getfield 28, 3)), (67, (.aload_n 0, 1)), (68, (.getfield 38, 3)), (71, (.isub, 1)), (72, (.iconst 3, 1)), (73, (.if_icmp .gt 11, 3)), (76, (.iload_n 1, 1)), (77, (.ifCond .ne 7, 3)), (80, (.iconst 2, 1)), (81, (.goto 4, 3)), (84, (.iconst 4, 1)), (85, (.putfield 44, 3)), (88, (.return_, 1))] = true := zYQs 50 (by decide +kernel)
theorem d_Tokens_readNumber_61 : decode (zb m_Tokens_readNumber) 61 = .ok (.istore_n 1, 1) := zdal_p dlA_Tokens_readNumber_82 (i := 5) rfl
theorem d_Tokens_readNumber_62 : decode (zb m_Tokens_readNumber) 62 = .ok (.aload_n 0, 1) := zdal_p dlA_Tokens_readNumber_82 (i := 6) rfl
theorem d_Tokens_readNumber_63 : decode (zb m_Tokens_readNumber) 63 = .ok (.aload_n 0, 1) := zdal_p dlA_Tokens_readNumber_82 (i := 7) rfl
theorem d_Tokens_readNumber_64 : decode (zb m_Tokens_readNumber) 64 = .ok (.getfield 28, 3) := zdal_p dlA_Tokens_readNumber_82 (i := 8) rfl
theorem d_Tokens_readNumber_67 : decode (zb m_Tokens_readNumber) 67 = .ok (.aload_n 0, 1) := zdal_p dlA_Tokens_readNumber_82 (i := 9) rfl
theorem d_Tokens_readNumber_68 : decode (zb m_Tokens_readNumber) 68 = .ok (.getfield 38, 3) := zdal_p dlA_Tokens_readNumber_82 (i := 10) rfl
theorem d_Tokens_readNumber_71 : decode (zb m_Tokens_readNumber) 71 = .ok (.isub, 1) := zdal_p dlA_Tokens_readNumber_82 (i := 11) rfl
theorem d_Tokens_readNumber_72 : decode (zb m_Tokens_readNumber) 72 = .ok (.iconst 3, 1) := zdal_p dlA_Tokens_readNumber_82 (i := 12) rfl
theorem d_Tokens_readNumber_73 : decode (zb m_Tokens_readNumber) 73 = .ok (.if_icmp .gt 11, 3) := zdal_p dlA_Tokens_readNumber_82 (i := 13) rfl
theorem d_Tokens_readNumber_76 : decode (zb m_Tokens_readNumber) 76 = .ok (.iload_n 1, 1) := zdal_p dlA_Tokens_readNumber_82 (i := 14) rfl
theorem d_Tokens_readNumber_77 : decode (zb m_Tokens_readNumber) 77 = .ok (.ifCond .ne 7, 3) := zdal_p dlA_Tokens_readNumber_82 (i := 15) rfl
theorem d_Tokens_readNumber_84 : decode (zb m_Tokens_readNumber) 84 = .ok (.iconst 4, 1) := zdal_p dlA_Tokens_readNumber_82 (i := 18) rfl
theorem d_Tokens_readNumber_85 : decode (zb m_Tokens_readNumber) 85 = .ok (.putfield 44, 3) := zdal_p dlA_Tokens_readNumber_82 (i := 19) rfl
theorem d_Tokens_readNumber_88 : decode (zb m_Tokens_readNumber) 88 = .ok (.return_, 1) := zdal_p dlA_Tokens_readNumber_82 (i := 20) rfl
theorem dlA_Tokens_pastDigits_83 : zdal (zb m_Tokens_pastDigits) [(0, (.iload_n 1, 1)), (1, (.istore_n 2, 1)), (2, (.iload_n 2, 1)), (3, (.aload_n 0, 1)), (4, (.getfield 20, 3)), (7, (.if_icmp .ge 23, 3)), (10, (.aload_n 0, 1)), (11, (.getfield 14, 3)), (14, (.iload_n 2, 1)), (15, (.invokevirtual 47, 3)), (18, (.invokestatic 57, 3)), (21, (.ifCond .eq 9, 3)), (24, (.iinc 2 1, 3)), (27, (.goto (-25), 3)), (30, (.iload_n 2, 1)), (31, (.ireturn, 1))] = true := zYQs 0 (by decide +kernel)
theorem dlA_Tokens_numberFrom_84 : zdal (zb m_Tokens_numberFrom) [(0, (.iconst 0, 1)), (1, (.istore_n 3, 1)), (2, (.iload_n 1, 1)), (3, (.istore 4, 2)), (5, (.iload 4, 2)), (7, (.iload_n 2, 1)), (8, (.if_icmp .ge 27, 3)), (11, (.iload_n 3, 1)), (12, (.bipush 10, 2)), (14, (.imul, 1)), (15, (.aload_n 0, 1)), (16, (.getfield 14, 3)), (19, (.iload 4, 2)), (21, (.invokevirtual 47, 3)), (24, (.iadd, 1)), (25, (.bipush 48, 2)), (27, (.isub, 1)), (28, (.istore_n 3, 1)), (29, (.iinc 4 1, 3)), (32, (.goto (-27), 3)), (35, (.iload_n 3, 1)), (36, (.ireturn, 1))] = true := zYQs 0 (by decide +kernel)
theorem dlA_Tokens_isSignByte_85 : zdal (zb m_Tokens_isSignByte) [(0, (.iload_n 0, 1)), (1, (.bipush 61, 2)), (3, (.if_icmp .eq 45, 3)), (6, (.iload_n 0, 1)), (7, (.bipush 43, 2)), (9, (.if_icmp .eq 39, 3)), (12, (.iload_n 0, 1)), (13, (.bipush 45, 2)), (15, (.if_icmp .eq 33, 3)), (18, (.iload_n 0, 1)), (19, (.bipush 42, 2)), (21, (.if_icmp .eq 27, 3)), (24, (.iload_n 0, 1)), (25, (.bipush 94, 2)), (27, (.if_icmp .eq 21, 3)), (30, (.iload_n 0, 1)), (31, (.bipush 40, 2)), (33, (.if_icmp .eq 15, 3)), (36, (.iload_n 0, 1)), (37, (.bipush 41, 2)), (39, (.if_icmp .eq 9, 3)), (42, (.iload_n 0, 1)), (43, (.bipush 59, 2)), (45, (.if_icmp .ne 7, 3))] = true := zYQs 0 (by decide +kernel)
theorem dlA_Tokens_isSignByte_86 : zdal (zb m_Tokens_isSignByte) [(48, (.iconst 1, 1)), (49, (.goto 4, 3)), (52, (.iconst 0, 1)), (53, (.ireturn, 1))] = true := zYQs 48 (by decide +kernel)
theorem d_Tokens_isSignByte_48 : decode (zb m_Tokens_isSignByte) 48 = .ok (.iconst 1, 1) := zdal_p dlA_Tokens_isSignByte_86 (i := 0) rfl
theorem d_Tokens_isSignByte_49 : decode (zb m_Tokens_isSignByte) 49 = .ok (.goto 4, 3) := zdal_p dlA_Tokens_isSignByte_86 (i := 1) rfl
theorem d_Tokens_isSignByte_53 : decode (zb m_Tokens_isSignByte) 53 = .ok (.ireturn, 1) := zdal_p dlA_Tokens_isSignByte_86 (i := 3) rfl
theorem dlA_Reader_readPlaces_87 : zdal (zb m_Reader_readPlaces) [(0, (.aload_n 0, 1)), (1, (.getfield 15, 3)), (4, (.ldc 47, 2)), (6, (.invokevirtual 49, 3)), (9, (.ifCond .ne 9, 3)), (12, (.aload_n 0, 1)), (13, (.iconst 2, 1)), (14, (.invokevirtual 41, 3)), (17, (.ireturn, 1)), (18, (.aload_n 0, 1)), (19, (.getfield 15, 3)), (22, (.invokevirtual 44, 3)), (25, (.aload_n 0, 1)), (26, (.getfield 15, 3)), (29, (.invokevirtual 53, 3)), (32, (.ifCond .ne 9, 3)), (35, (.aload_n 0, 1)), (36, (.iconst 2, 1)), (37, (.invokevirtual 41, 3)), (40, (.ireturn, 1)), (41, (.aload_n 0, 1)), (42, (.getfield 15, 3)), (45, (.getfield 57, 3)), (48, (.iconst 1, 1))] = true := zYQs 0 (by decide +kernel)
theorem dlA_Reader_readPlaces_88 : zdal (zb m_Reader_readPlaces) [(49, (.if_icmp .lt 15, 3)), (52, (.aload_n 0, 1)), (53, (.getfield 15, 3)), (56, (.getfield 57, 3)), (59, (.bipush 6, 2)), (61, (.if_icmp .le 9, 3)), (64, (.aload_n 0, 1)), (65, (.iconst 4, 1)), (66, (.invokevirtual 41, 3)), (69, (.ireturn, 1)), (70, (.aload_n 1, 1)), (71, (.aload_n 0, 1)), (72, (.getfield 15, 3)), (75, (.getfield 57, 3)), (78, (.invokevirtual 60, 3)), (81, (.aload_n 0, 1)), (82, (.getfield 15, 3)), (85, (.invokevirtual 44, 3)), (88, (.aload_n 0, 1)), (89, (.bipush 59, 2)), (91, (.invokevirtual 66, 3)), (94, (.ireturn, 1))] = true := zYQs 49 (by decide +kernel)
theorem dlA_Tokens_isWord_89 : zdal (zb m_Tokens_isWord) [(0, (.aload_n 0, 1)), (1, (.getfield 44, 3)), (4, (.iconst 1, 1)), (5, (.if_icmp .ne 19, 3)), (8, (.aload_n 1, 1)), (9, (.invokevirtual 76, 3)), (12, (.aload_n 0, 1)), (13, (.getfield 28, 3)), (16, (.aload_n 0, 1)), (17, (.getfield 38, 3)), (20, (.isub, 1)), (21, (.if_icmp .eq 5, 3)), (24, (.iconst 0, 1)), (25, (.ireturn, 1)), (26, (.iconst 0, 1)), (27, (.istore_n 2, 1)), (28, (.iload_n 2, 1)), (29, (.aload_n 1, 1)), (30, (.invokevirtual 76, 3)), (33, (.if_icmp .ge 32, 3)), (36, (.aload_n 0, 1)), (37, (.getfield 14, 3)), (40, (.aload_n 0, 1)), (41, (.getfield 38, 3))] = true := zYQs 0 (by decide +kernel)
theorem dlA_Tokens_isWord_90 : zdal (zb m_Tokens_isWord) [(44, (.iload_n 2, 1)), (45, (.iadd, 1)), (46, (.invokevirtual 47, 3)), (49, (.aload_n 1, 1)), (50, (.iload_n 2, 1)), (51, (.invokevirtual 81, 3)), (54, (.if_icmp .eq 5, 3)), (57, (.iconst 0, 1)), (58, (.ireturn, 1)), (59, (.iinc 2 1, 3)), (62, (.goto (-34), 3)), (65, (.iconst 1, 1)), (66, (.ireturn, 1))] = true := zYQs 44 (by decide +kernel)
theorem dlA_Reader_refuse_91 : zdal (zb m_Reader_refuse) [(0, (.aload_n 0, 1)), (1, (.aload_n 0, 1)), (2, (.getfield 15, 3)), (5, (.getfield 27, 3)), (8, (.iconst 4, 1)), (9, (.if_icmp .ne 7, 3)), (12, (.iconst 1, 1)), (13, (.goto 4, 3)), (16, (.iload_n 1, 1)), (17, (.aload_n 0, 1)), (18, (.getfield 15, 3)), (21, (.getfield 30, 3)), (24, (.invokevirtual 33, 3)), (27, (.ireturn, 1))] = true := zYQs 0 (by decide +kernel)
theorem dlA_Reader_refuseAt_92 : zdal (zb m_Reader_refuseAt) [(0, (.aload_n 0, 1)), (1, (.iload_n 1, 1)), (2, (.putfield 19, 3)), (5, (.aload_n 0, 1)), (6, (.iload_n 2, 1)), (7, (.putfield 9, 3)), (10, (.iconst 0, 1)), (11, (.ireturn, 1))] = true := zYQs 0 (by decide +kernel)
theorem dlA_Tokens_isNumber_93 : zdal (zb m_Tokens_isNumber) [(0, (.aload_n 0, 1)), (1, (.getfield 44, 3)), (4, (.iconst 2, 1)), (5, (.if_icmp .ne 7, 3)), (8, (.iconst 1, 1)), (9, (.goto 4, 3)), (12, (.iconst 0, 1)), (13, (.ireturn, 1))] = true := zYQs 0 (by decide +kernel)
theorem dlA_Reader_passSign_94 : zdal (zb m_Reader_passSign) [(0, (.aload_n 0, 1)), (1, (.getfield 15, 3)), (4, (.iload_n 1, 1)), (5, (.invokevirtual 37, 3)), (8, (.ifCond .ne 9, 3)), (11, (.aload_n 0, 1)), (12, (.iconst 2, 1)), (13, (.invokevirtual 41, 3)), (16, (.ireturn, 1)), (17, (.aload_n 0, 1)), (18, (.getfield 15, 3)), (21, (.invokevirtual 44, 3)), (24, (.iconst 1, 1)), (25, (.ireturn, 1))] = true := zYQs 0 (by decide +kernel)
theorem dlA_Tokens_isSign_95 : zdal (zb m_Tokens_isSign) [(0, (.aload_n 0, 1)), (1, (.getfield 44, 3)), (4, (.iconst 3, 1)), (5, (.if_icmp .ne 15, 3)), (8, (.aload_n 0, 1)), (9, (.getfield 41, 3)), (12, (.iload_n 1, 1)), (13, (.if_icmp .ne 7, 3)), (16, (.iconst 1, 1)), (17, (.goto 4, 3)), (20, (.iconst 0, 1)), (21, (.ireturn, 1))] = true := zYQs 0 (by decide +kernel)
theorem d_Tokens_isSign_21 : decode (zb m_Tokens_isSign) 21 = .ok (.ireturn, 1) := zdal_p dlA_Tokens_isSign_95 (i := 11) rfl
theorem dlA_Reader_readMoves_96 : zdal (zb m_Reader_readMoves) [(0, (.iconst 0, 1)), (1, (.istore_n 2, 1)), (2, (.iload_n 2, 1)), (3, (.iconst 4, 1)), (4, (.if_icmp .gt 102, 3)), (7, (.aload_n 0, 1)), (8, (.getfield 15, 3)), (11, (.ldc 69, 2)), (13, (.invokevirtual 49, 3)), (16, (.ifCond .eq 90, 3)), (19, (.aload_n 0, 1)), (20, (.getfield 15, 3)), (23, (.getfield 30, 3)), (26, (.istore_n 3, 1)), (27, (.aload_n 1, 1)), (28, (.getfield 71, 3)), (31, (.getfield 75, 3)), (34, (.iconst 4, 1)), (35, (.if_icmp .lt 9, 3)), (38, (.aload_n 0, 1)), (39, (.iconst 5, 1)), (40, (.invokevirtual 41, 3)), (43, (.ireturn, 1)), (44, (.aload_n 0, 1))] = true := zYQs 0 (by decide +kernel)
theorem dlA_Reader_readMoves_97 : zdal (zb m_Reader_readMoves) [(45, (.getfield 15, 3)), (48, (.invokevirtual 44, 3)), (51, (.aload_n 0, 1)), (52, (.aload_n 1, 1)), (53, (.getfield 71, 3)), (56, (.getfield 80, 3)), (59, (.invokevirtual 82, 3)), (62, (.istore 4, 2)), (64, (.iload 4, 2)), (66, (.iconst (-1), 1)), (67, (.if_icmp .eq 12, 3)), (70, (.aload_n 0, 1)), (71, (.bipush 59, 2)), (73, (.invokevirtual 66, 3)), (76, (.ifCond .ne 5, 3)), (79, (.iconst 0, 1)), (80, (.ireturn, 1)), (81, (.aload_n 1, 1)), (82, (.getfield 71, 3)), (85, (.iload 4, 2)), (87, (.invokevirtual 86, 3)), (90, (.ifCond .ne 10, 3)), (93, (.aload_n 0, 1)), (94, (.iconst 5, 1))] = true := zYQs 45 (by decide +kernel)
theorem dlA_Reader_readMoves_98 : zdal (zb m_Reader_readMoves) [(95, (.iload_n 3, 1)), (96, (.invokevirtual 33, 3)), (99, (.ireturn, 1)), (100, (.iinc 2 1, 3)), (103, (.goto (-101), 3)), (106, (.iconst 1, 1)), (107, (.ireturn, 1))] = true := zYQs 95 (by decide +kernel)
theorem dlA_Reader_readMove_99 : zdal (zb m_Reader_readMove) [(0, (.iconst 0, 1)), (1, (.istore_n 2, 1)), (2, (.iconst 0, 1)), (3, (.istore_n 3, 1)), (4, (.iconst 0, 1)), (5, (.istore 4, 2)), (7, (.iload 4, 2)), (9, (.iload_n 1, 1)), (10, (.if_icmp .ge 83, 3)), (13, (.aload_n 0, 1)), (14, (.getfield 15, 3)), (17, (.invokevirtual 53, 3)), (20, (.ifCond .ne 11, 3)), (23, (.aload_n 0, 1)), (24, (.iconst 2, 1)), (25, (.invokevirtual 41, 3)), (28, (.pop, 1)), (29, (.iconst (-1), 1)), (30, (.ireturn, 1)), (31, (.aload_n 0, 1)), (32, (.getfield 15, 3)), (35, (.getfield 57, 3)), (38, (.istore 5, 2)), (40, (.iload 5, 2))] = true := zYQs 0 (by decide +kernel)
theorem dlA_Reader_readMove_100 : zdal (zb m_Reader_readMove) [(42, (.iload_n 1, 1)), (43, (.if_icmp .ge 12, 3)), (46, (.iload_n 3, 1)), (47, (.iload 5, 2)), (49, (.invokestatic 89, 3)), (52, (.ifCond .eq 11, 3)), (55, (.aload_n 0, 1)), (56, (.iconst 4, 1)), (57, (.invokevirtual 41, 3)), (60, (.pop, 1)), (61, (.iconst (-1), 1)), (62, (.ireturn, 1)), (63, (.iload_n 3, 1)), (64, (.iconst 1, 1)), (65, (.iload 5, 2)), (67, (.ishl, 1)), (68, (.ior, 1)), (69, (.istore_n 3, 1)), (70, (.iload_n 2, 1)), (71, (.iload 5, 2)), (73, (.iload 4, 2)), (75, (.invokestatic 92, 3)), (78, (.ior, 1)), (79, (.istore_n 2, 1))] = true := zYQs 42 (by decide +kernel)
theorem dlA_Reader_readMove_101 : zdal (zb m_Reader_readMove) [(80, (.aload_n 0, 1)), (81, (.getfield 15, 3)), (84, (.invokevirtual 44, 3)), (87, (.iinc 4 1, 3)), (90, (.goto (-83), 3)), (93, (.iload_n 2, 1)), (94, (.ireturn, 1))] = true := zYQs 80 (by decide +kernel)
theorem dlA_Group_addMove_102 : zdal (zb m_Group_addMove) [(0, (.aload_n 0, 1)), (1, (.getfield 36, 3)), (4, (.iconst 4, 1)), (5, (.if_icmp .lt 5, 3)), (8, (.iconst 0, 1)), (9, (.ireturn, 1)), (10, (.aload_n 0, 1)), (11, (.getfield 14, 3)), (14, (.aload_n 0, 1)), (15, (.getfield 36, 3)), (18, (.iload_n 1, 1)), (19, (.invokevirtual 46, 3)), (22, (.aload_n 0, 1)), (23, (.dup, 1)), (24, (.getfield 36, 3)), (27, (.iconst 1, 1)), (28, (.iadd, 1)), (29, (.putfield 36, 3)), (32, (.aload_n 0, 1)), (33, (.invokevirtual 42, 3)), (36, (.ireturn, 1))] = true := zYQs 0 (by decide +kernel)
theorem dlA_Reader_readLets_103 : zdal (zb m_Reader_readLets) [(0, (.iconst 0, 1)), (1, (.istore_n 2, 1)), (2, (.iload_n 2, 1)), (3, (.bipush 8, 2)), (5, (.if_icmp .gt 151, 3)), (8, (.aload_n 0, 1)), (9, (.getfield 15, 3)), (12, (.ldc 96, 2)), (14, (.invokevirtual 49, 3)), (17, (.ifCond .eq 139, 3)), (20, (.aload_n 0, 1)), (21, (.getfield 15, 3)), (24, (.getfield 30, 3)), (27, (.istore_n 3, 1)), (28, (.aload_n 1, 1)), (29, (.getfield 98, 3)), (32, (.bipush 8, 2)), (34, (.if_icmp .lt 9, 3)), (37, (.aload_n 0, 1)), (38, (.iconst 5, 1)), (39, (.invokevirtual 41, 3)), (42, (.ireturn, 1)), (43, (.aload_n 0, 1)), (44, (.getfield 15, 3))] = true := zYQs 0 (by decide +kernel)
theorem dlA_Reader_readLets_104 : zdal (zb m_Reader_readLets) [(47, (.invokevirtual 44, 3)), (50, (.aload_n 0, 1)), (51, (.getfield 15, 3)), (54, (.invokevirtual 101, 3)), (57, (.ifCond .ne 9, 3)), (60, (.aload_n 0, 1)), (61, (.iconst 2, 1)), (62, (.invokevirtual 41, 3)), (65, (.ireturn, 1)), (66, (.aload_n 0, 1)), (67, (.getfield 15, 3)), (70, (.getfield 57, 3)), (73, (.istore 4, 2)), (75, (.aload_n 1, 1)), (76, (.iload 4, 2)), (78, (.invokevirtual 104, 3)), (81, (.iconst (-1), 1)), (82, (.if_icmp .eq 9, 3)), (85, (.aload_n 0, 1)), (86, (.iconst 3, 1)), (87, (.invokevirtual 41, 3)), (90, (.ireturn, 1)), (91, (.aload_n 0, 1)), (92, (.getfield 15, 3))] = true := zYQs 47 (by decide +kernel)
theorem dlA_Reader_readLets_105 : zdal (zb m_Reader_readLets) [(95, (.invokevirtual 44, 3)), (98, (.aload_n 0, 1)), (99, (.bipush 61, 2)), (101, (.invokevirtual 66, 3)), (104, (.ifCond .eq 20, 3)), (107, (.aload_n 0, 1)), (108, (.aload_n 1, 1)), (109, (.invokevirtual 107, 3)), (112, (.ifCond .eq 12, 3)), (115, (.aload_n 0, 1)), (116, (.bipush 59, 2)), (118, (.invokevirtual 66, 3)), (121, (.ifCond .ne 5, 3)), (124, (.iconst 0, 1)), (125, (.ireturn, 1)), (126, (.aload_n 1, 1)), (127, (.getfield 111, 3)), (130, (.getfield 115, 3)), (133, (.ifCond .eq 11, 3)), (136, (.aload_n 0, 1)), (137, (.bipush 6, 2)), (139, (.iload_n 3, 1)), (140, (.invokevirtual 33, 3)), (143, (.ireturn, 1))] = true := zYQs 95 (by decide +kernel)
theorem dlA_Reader_readLets_106 : zdal (zb m_Reader_readLets) [(144, (.aload_n 1, 1)), (145, (.iload 4, 2)), (147, (.invokevirtual 121, 3)), (150, (.iinc 2 1, 3)), (153, (.goto (-151), 3)), (156, (.aload_n 0, 1)), (157, (.getfield 15, 3)), (160, (.getfield 27, 3)), (163, (.ifCond .eq 11, 3)), (166, (.aload_n 0, 1)), (167, (.iconst 2, 1)), (168, (.invokevirtual 41, 3)), (171, (.ifCond .eq 7, 3)), (174, (.iconst 1, 1)), (175, (.goto 4, 3)), (178, (.iconst 0, 1)), (179, (.ireturn, 1))] = true := zYQs 144 (by decide +kernel)
theorem dlA_Tokens_isName_107 : zdal (zb m_Tokens_isName) [(0, (.aload_n 0, 1)), (1, (.getfield 44, 3)), (4, (.iconst 1, 1)), (5, (.if_icmp .ne 43, 3)), (8, (.aload_n 0, 1)), (9, (.ldc 85, 2)), (11, (.invokevirtual 87, 3)), (14, (.ifCond .ne 34, 3)), (17, (.aload_n 0, 1)), (18, (.ldc 91, 2)), (20, (.invokevirtual 87, 3)), (23, (.ifCond .ne 25, 3)), (26, (.aload_n 0, 1)), (27, (.ldc 93, 2)), (29, (.invokevirtual 87, 3)), (32, (.ifCond .ne 16, 3)), (35, (.aload_n 0, 1)), (36, (.ldc 95, 2)), (38, (.invokevirtual 87, 3)), (41, (.ifCond .ne 7, 3)), (44, (.iconst 1, 1)), (45, (.goto 4, 3)), (48, (.iconst 0, 1)), (49, (.ireturn, 1))] = true := zYQs 0 (by decide +kernel)
theorem d_Tokens_isName_48 : decode (zb m_Tokens_isName) 48 = .ok (.iconst 0, 1) := zdal_p dlA_Tokens_isName_107 (i := 22) rfl
theorem d_Tokens_isName_49 : decode (zb m_Tokens_isName) 49 = .ok (.ireturn, 1) := zdal_p dlA_Tokens_isName_107 (i := 23) rfl
theorem dlA_Troupe_nameOf_108 : zdal (zb m_Troupe_nameOf) [(0, (.iconst 0, 1)), (1, (.istore_n 2, 1)), (2, (.iload_n 2, 1)), (3, (.aload_n 0, 1)), (4, (.getfield 64, 3)), (7, (.if_icmp .ge 23, 3)), (10, (.aload_n 0, 1)), (11, (.getfield 57, 3)), (14, (.iload_n 2, 1)), (15, (.invokevirtual 85, 3)), (18, (.iload_n 1, 1)), (19, (.if_icmp .ne 5, 3)), (22, (.iload_n 2, 1)), (23, (.ireturn, 1)), (24, (.iinc 2 1, 3)), (27, (.goto (-25), 3)), (30, (.iconst (-1), 1)), (31, (.ireturn, 1))] = true := zYQs 0 (by decide +kernel)
theorem dlA_Reader_readSum_109 : zdal (zb m_Reader_readSum) [(0, (.aload_n 1, 1)), (1, (.getfield 111, 3)), (4, (.astore_n 2, 1)), (5, (.aload_n 2, 1)), (6, (.invokevirtual 124, 3)), (9, (.aload_n 0, 1)), (10, (.iconst 0, 1)), (11, (.putfield 126, 3)), (14, (.iconst 1, 1)), (15, (.istore_n 3, 1)), (16, (.iconst 0, 1)), (17, (.istore 4, 2)), (19, (.iload 4, 2)), (21, (.bipush 30, 2)), (23, (.if_icmp .gt 103, 3)), (26, (.iload_n 3, 1)), (27, (.ifCond .eq 99, 3)), (30, (.aload_n 0, 1)), (31, (.aload_n 2, 1)), (32, (.invokevirtual 129, 3)), (35, (.ifCond .eq 19, 3)), (38, (.aload_n 0, 1)), (39, (.aload_n 1, 1)), (40, (.invokevirtual 133, 3))] = true := zYQs 0 (by decide +kernel)
theorem dlA_Reader_readSum_110 : zdal (zb m_Reader_readSum) [(43, (.ifCond .eq 11, 3)), (46, (.aload_n 0, 1)), (47, (.aload_n 2, 1)), (48, (.invokevirtual 136, 3)), (51, (.ifCond .ne 5, 3)), (54, (.iconst 0, 1)), (55, (.ireturn, 1)), (56, (.aload_n 0, 1)), (57, (.getfield 15, 3)), (60, (.bipush 43, 2)), (62, (.invokevirtual 37, 3)), (65, (.ifCond .ne 27, 3)), (68, (.aload_n 0, 1)), (69, (.getfield 15, 3)), (72, (.bipush 45, 2)), (74, (.invokevirtual 37, 3)), (77, (.ifCond .ne 15, 3)), (80, (.aload_n 0, 1)), (81, (.getfield 15, 3)), (84, (.bipush 42, 2)), (86, (.invokevirtual 37, 3)), (89, (.ifCond .eq 7, 3)), (92, (.iconst 1, 1)), (93, (.goto 4, 3))] = true := zYQs 43 (by decide +kernel)
theorem d_Reader_readSum_54 : decode (zb m_Reader_readSum) 54 = .ok (.iconst 0, 1) := zdal_p dlA_Reader_readSum_110 (i := 5) rfl
theorem d_Reader_readSum_55 : decode (zb m_Reader_readSum) 55 = .ok (.ireturn, 1) := zdal_p dlA_Reader_readSum_110 (i := 6) rfl
theorem d_Reader_readSum_92 : decode (zb m_Reader_readSum) 92 = .ok (.iconst 1, 1) := zdal_p dlA_Reader_readSum_110 (i := 22) rfl
theorem d_Reader_readSum_93 : decode (zb m_Reader_readSum) 93 = .ok (.goto 4, 3) := zdal_p dlA_Reader_readSum_110 (i := 23) rfl
theorem dlA_Reader_readSum_111 : zdal (zb m_Reader_readSum) [(96, (.iconst 0, 1)), (97, (.istore_n 3, 1)), (98, (.iload_n 3, 1)), (99, (.ifCond .eq 21, 3)), (102, (.aload_n 2, 1)), (103, (.aload_n 0, 1)), (104, (.getfield 15, 3)), (107, (.getfield 57, 3)), (110, (.invokevirtual 139, 3)), (113, (.aload_n 0, 1)), (114, (.getfield 15, 3)), (117, (.invokevirtual 44, 3)), (120, (.iinc 4 1, 3)), (123, (.goto (-104), 3)), (126, (.aload_n 2, 1)), (127, (.getfield 142, 3)), (130, (.ifCond .le 9, 3)), (133, (.aload_n 0, 1)), (134, (.iconst 2, 1)), (135, (.invokevirtual 41, 3)), (138, (.ireturn, 1)), (139, (.aload_n 2, 1)), (140, (.iconst 0, 1)), (141, (.invokevirtual 145, 3))] = true := zYQs 96 (by decide +kernel)
theorem d_Reader_readSum_97 : decode (zb m_Reader_readSum) 97 = .ok (.istore_n 3, 1) := zdal_p dlA_Reader_readSum_111 (i := 1) rfl
theorem d_Reader_readSum_98 : decode (zb m_Reader_readSum) 98 = .ok (.iload_n 3, 1) := zdal_p dlA_Reader_readSum_111 (i := 2) rfl
theorem d_Reader_readSum_99 : decode (zb m_Reader_readSum) 99 = .ok (.ifCond .eq 21, 3) := zdal_p dlA_Reader_readSum_111 (i := 3) rfl
theorem d_Reader_readSum_102 : decode (zb m_Reader_readSum) 102 = .ok (.aload_n 2, 1) := zdal_p dlA_Reader_readSum_111 (i := 4) rfl
theorem d_Reader_readSum_103 : decode (zb m_Reader_readSum) 103 = .ok (.aload_n 0, 1) := zdal_p dlA_Reader_readSum_111 (i := 5) rfl
theorem d_Reader_readSum_104 : decode (zb m_Reader_readSum) 104 = .ok (.getfield 15, 3) := zdal_p dlA_Reader_readSum_111 (i := 6) rfl
theorem d_Reader_readSum_107 : decode (zb m_Reader_readSum) 107 = .ok (.getfield 57, 3) := zdal_p dlA_Reader_readSum_111 (i := 7) rfl
theorem d_Reader_readSum_110 : decode (zb m_Reader_readSum) 110 = .ok (.invokevirtual 139, 3) := zdal_p dlA_Reader_readSum_111 (i := 8) rfl
theorem d_Reader_readSum_113 : decode (zb m_Reader_readSum) 113 = .ok (.aload_n 0, 1) := zdal_p dlA_Reader_readSum_111 (i := 9) rfl
theorem d_Reader_readSum_114 : decode (zb m_Reader_readSum) 114 = .ok (.getfield 15, 3) := zdal_p dlA_Reader_readSum_111 (i := 10) rfl
theorem d_Reader_readSum_117 : decode (zb m_Reader_readSum) 117 = .ok (.invokevirtual 44, 3) := zdal_p dlA_Reader_readSum_111 (i := 11) rfl
theorem d_Reader_readSum_120 : decode (zb m_Reader_readSum) 120 = .ok (.iinc 4 1, 3) := zdal_p dlA_Reader_readSum_111 (i := 12) rfl
theorem d_Reader_readSum_123 : decode (zb m_Reader_readSum) 123 = .ok (.goto (-104), 3) := zdal_p dlA_Reader_readSum_111 (i := 13) rfl
theorem dlA_Reader_readSum_112 : zdal (zb m_Reader_readSum) [(144, (.iconst 1, 1)), (145, (.ireturn, 1))] = true := zYQs 144 (by decide +kernel)
theorem dlA_Calc_begin_113 : zdal (zb m_Calc_begin) [(0, (.aload_n 0, 1)), (1, (.iconst 0, 1)), (2, (.putfield 24, 3)), (5, (.aload_n 0, 1)), (6, (.iconst 0, 1)), (7, (.putfield 28, 3)), (10, (.aload_n 0, 1)), (11, (.iconst 0, 1)), (12, (.putfield 31, 3)), (15, (.aload_n 0, 1)), (16, (.iconst 0, 1)), (17, (.putfield 34, 3)), (20, (.aload_n 0, 1)), (21, (.iconst 0, 1)), (22, (.putfield 37, 3)), (25, (.return_, 1))] = true := zYQs 0 (by decide +kernel)
theorem dlA_Reader_readAhead_114 : zdal (zb m_Reader_readAhead) [(0, (.iconst 0, 1)), (1, (.istore_n 2, 1)), (2, (.iload_n 2, 1)), (3, (.bipush 30, 2)), (5, (.if_icmp .gt 59, 3)), (8, (.aload_n 0, 1)), (9, (.getfield 15, 3)), (12, (.bipush 40, 2)), (14, (.invokevirtual 37, 3)), (17, (.istore_n 3, 1)), (18, (.iload_n 3, 1)), (19, (.ifCond .ne 17, 3)), (22, (.aload_n 0, 1)), (23, (.getfield 15, 3)), (26, (.bipush 45, 2)), (28, (.invokevirtual 37, 3)), (31, (.ifCond .ne 5, 3)), (34, (.iconst 1, 1)), (35, (.ireturn, 1)), (36, (.aload_n 0, 1)), (37, (.aload_n 1, 1)), (38, (.invokevirtual 152, 3)), (41, (.ifCond .ne 5, 3)), (44, (.iconst 0, 1))] = true := zYQs 0 (by decide +kernel)
theorem d_Reader_readAhead_41 : decode (zb m_Reader_readAhead) 41 = .ok (.ifCond .ne 5, 3) := zdal_p dlA_Reader_readAhead_114 (i := 22) rfl
theorem dlA_Reader_readAhead_115 : zdal (zb m_Reader_readAhead) [(45, (.ireturn, 1)), (46, (.aload_n 1, 1)), (47, (.iload_n 3, 1)), (48, (.invokevirtual 155, 3)), (51, (.aload_n 0, 1)), (52, (.getfield 15, 3)), (55, (.invokevirtual 44, 3)), (58, (.iinc 2 1, 3)), (61, (.goto (-59), 3)), (64, (.aload_n 0, 1)), (65, (.iconst 5, 1)), (66, (.invokevirtual 41, 3)), (69, (.ireturn, 1))] = true := zYQs 45 (by decide +kernel)
theorem dlA_Reader_countUnit_116 : zdal (zb m_Reader_countUnit) [(0, (.aload_n 0, 1)), (1, (.getfield 126, 3)), (4, (.bipush 30, 2)), (6, (.if_icmp .ge 12, 3)), (9, (.aload_n 1, 1)), (10, (.getfield 149, 3)), (13, (.bipush 6, 2)), (15, (.if_icmp .le 9, 3)), (18, (.aload_n 0, 1)), (19, (.iconst 5, 1)), (20, (.invokevirtual 41, 3)), (23, (.ireturn, 1)), (24, (.aload_n 0, 1)), (25, (.dup, 1)), (26, (.getfield 126, 3)), (29, (.iconst 1, 1)), (30, (.iadd, 1)), (31, (.putfield 126, 3)), (34, (.iconst 1, 1)), (35, (.ireturn, 1))] = true := zYQs 0 (by decide +kernel)
theorem dlA_Calc_open_117 : zdal (zb m_Calc_open) [(0, (.aload_n 0, 1)), (1, (.iload_n 1, 1)), (2, (.ifCond .eq 8, 3)), (5, (.bipush 40, 2)), (7, (.goto 5, 3)), (10, (.bipush 126, 2)), (12, (.invokevirtual 55, 3)), (15, (.aload_n 0, 1)), (16, (.dup, 1)), (17, (.getfield 31, 3)), (20, (.iconst 1, 1)), (21, (.iadd, 1)), (22, (.putfield 31, 3)), (25, (.aload_n 0, 1)), (26, (.dup, 1)), (27, (.getfield 34, 3)), (30, (.iload_n 1, 1)), (31, (.ifCond .eq 7, 3)), (34, (.iconst 1, 1)), (35, (.goto 4, 3)), (38, (.iconst 0, 1)), (39, (.iadd, 1)), (40, (.putfield 34, 3)), (43, (.return_, 1))] = true := zYQs 0 (by decide +kernel)
theorem d_Calc_open_39 : decode (zb m_Calc_open) 39 = .ok (.iadd, 1) := zdal_p dlA_Calc_open_117 (i := 21) rfl
theorem d_Calc_open_40 : decode (zb m_Calc_open) 40 = .ok (.putfield 34, 3) := zdal_p dlA_Calc_open_117 (i := 22) rfl
theorem d_Calc_open_43 : decode (zb m_Calc_open) 43 = .ok (.return_, 1) := zdal_p dlA_Calc_open_117 (i := 23) rfl
theorem dlA_Calc_pushSign_118 : zdal (zb m_Calc_pushSign) [(0, (.aload_n 0, 1)), (1, (.getfield 24, 3)), (4, (.bipush 24, 2)), (6, (.if_icmp .ge 25, 3)), (9, (.aload_n 0, 1)), (10, (.getfield 14, 3)), (13, (.aload_n 0, 1)), (14, (.getfield 24, 3)), (17, (.iload_n 1, 1)), (18, (.invokevirtual 47, 3)), (21, (.aload_n 0, 1)), (22, (.dup, 1)), (23, (.getfield 24, 3)), (26, (.iconst 1, 1)), (27, (.iadd, 1)), (28, (.putfield 24, 3)), (31, (.return_, 1))] = true := zYQs 0 (by decide +kernel)
theorem dlA_Reader_readOperand_119 : zdal (zb m_Reader_readOperand) [(0, (.aload_n 1, 1)), (1, (.getfield 111, 3)), (4, (.astore_n 2, 1)), (5, (.aload_n 1, 1)), (6, (.getfield 158, 3)), (9, (.getfield 162, 3)), (12, (.iconst 1, 1)), (13, (.isub, 1)), (14, (.istore_n 3, 1)), (15, (.aload_n 0, 1)), (16, (.getfield 15, 3)), (19, (.invokevirtual 53, 3)), (22, (.istore 4, 2)), (24, (.iload 4, 2)), (26, (.ifCond .ne 25, 3)), (29, (.aload_n 0, 1)), (30, (.getfield 15, 3)), (33, (.ldc 167, 2)), (35, (.invokevirtual 49, 3)), (38, (.ifCond .ne 13, 3)), (41, (.aload_n 0, 1)), (42, (.aload_n 1, 1)), (43, (.invokevirtual 169, 3)), (46, (.ifCond .ne 87, 3))] = true := zYQs 0 (by decide +kernel)
theorem dlA_Reader_readOperand_120 : zdal (zb m_Reader_readOperand) [(49, (.iconst 0, 1)), (50, (.ireturn, 1)), (51, (.aload_n 0, 1)), (52, (.aload_n 2, 1)), (53, (.invokevirtual 152, 3)), (56, (.ifCond .ne 5, 3)), (59, (.iconst 0, 1)), (60, (.ireturn, 1)), (61, (.iload 4, 2)), (63, (.ifCond .eq 18, 3)), (66, (.aload_n 2, 1)), (67, (.iload_n 3, 1)), (68, (.aload_n 0, 1)), (69, (.getfield 15, 3)), (72, (.getfield 57, 3)), (75, (.invokevirtual 172, 3)), (78, (.goto 55, 3)), (81, (.aload_n 0, 1)), (82, (.getfield 15, 3)), (85, (.invokevirtual 44, 3)), (88, (.aload_n 0, 1)), (89, (.getfield 15, 3)), (92, (.invokevirtual 53, 3)), (95, (.ifCond .ne 9, 3))] = true := zYQs 49 (by decide +kernel)
theorem d_Reader_readOperand_56 : decode (zb m_Reader_readOperand) 56 = .ok (.ifCond .ne 5, 3) := zdal_p dlA_Reader_readOperand_120 (i := 5) rfl
theorem dlA_Reader_readOperand_121 : zdal (zb m_Reader_readOperand) [(98, (.aload_n 0, 1)), (99, (.iconst 2, 1)), (100, (.invokevirtual 41, 3)), (103, (.ireturn, 1)), (104, (.aload_n 0, 1)), (105, (.getfield 15, 3)), (108, (.getfield 57, 3)), (111, (.iload_n 3, 1)), (112, (.if_icmp .le 9, 3)), (115, (.aload_n 0, 1)), (116, (.iconst 4, 1)), (117, (.invokevirtual 41, 3)), (120, (.ireturn, 1)), (121, (.aload_n 2, 1)), (122, (.aload_n 0, 1)), (123, (.getfield 15, 3)), (126, (.getfield 57, 3)), (129, (.iconst 1, 1)), (130, (.invokevirtual 172, 3)), (133, (.aload_n 0, 1)), (134, (.getfield 15, 3)), (137, (.invokevirtual 44, 3)), (140, (.iconst 1, 1)), (141, (.ireturn, 1))] = true := zYQs 98 (by decide +kernel)
theorem d_Reader_readOperand_133 : decode (zb m_Reader_readOperand) 133 = .ok (.aload_n 0, 1) := zdal_p dlA_Reader_readOperand_121 (i := 19) rfl
theorem d_Reader_readOperand_134 : decode (zb m_Reader_readOperand) 134 = .ok (.getfield 15, 3) := zdal_p dlA_Reader_readOperand_121 (i := 20) rfl
theorem d_Reader_readOperand_137 : decode (zb m_Reader_readOperand) 137 = .ok (.invokevirtual 44, 3) := zdal_p dlA_Reader_readOperand_121 (i := 21) rfl
theorem d_Reader_readOperand_140 : decode (zb m_Reader_readOperand) 140 = .ok (.iconst 1, 1) := zdal_p dlA_Reader_readOperand_121 (i := 22) rfl
theorem d_Reader_readOperand_141 : decode (zb m_Reader_readOperand) 141 = .ok (.ireturn, 1) := zdal_p dlA_Reader_readOperand_121 (i := 23) rfl
theorem dlA_Reader_readNamed_122 : zdal (zb m_Reader_readNamed) [(0, (.aload_n 0, 1)), (1, (.getfield 15, 3)), (4, (.invokevirtual 101, 3)), (7, (.ifCond .ne 9, 3)), (10, (.aload_n 0, 1)), (11, (.iconst 2, 1)), (12, (.invokevirtual 41, 3)), (15, (.ireturn, 1)), (16, (.aload_n 1, 1)), (17, (.aload_n 0, 1)), (18, (.getfield 15, 3)), (21, (.getfield 57, 3)), (24, (.invokevirtual 104, 3)), (27, (.istore_n 2, 1)), (28, (.iload_n 2, 1)), (29, (.iconst (-1), 1)), (30, (.if_icmp .ne 9, 3)), (33, (.aload_n 0, 1)), (34, (.iconst 3, 1)), (35, (.invokevirtual 41, 3)), (38, (.ireturn, 1)), (39, (.aload_n 0, 1)), (40, (.aload_n 1, 1)), (41, (.getfield 111, 3))] = true := zYQs 0 (by decide +kernel)
theorem dlA_Reader_readNamed_123 : zdal (zb m_Reader_readNamed) [(44, (.invokevirtual 152, 3)), (47, (.ifCond .ne 5, 3)), (50, (.iconst 0, 1)), (51, (.ireturn, 1)), (52, (.aload_n 1, 1)), (53, (.getfield 111, 3)), (56, (.iload_n 2, 1)), (57, (.invokevirtual 176, 3)), (60, (.iconst 1, 1)), (61, (.ireturn, 1))] = true := zYQs 44 (by decide +kernel)
theorem dlA_Calc_pushNamed_124 : zdal (zb m_Calc_pushNamed) [(0, (.aload_n 0, 1)), (1, (.getfield 20, 3)), (4, (.iconst 1, 1)), (5, (.iload_n 1, 1)), (6, (.iadd, 1)), (7, (.aload_n 0, 1)), (8, (.invokevirtual 58, 3)), (11, (.invokevirtual 65, 3)), (14, (.return_, 1))] = true := zYQs 0 (by decide +kernel)
theorem dlA_Calc_nextShelf_125 : zdal (zb m_Calc_nextShelf) [(0, (.aload_n 0, 1)), (1, (.getfield 28, 3)), (4, (.bipush 18, 2)), (6, (.if_icmp .ge 13, 3)), (9, (.aload_n 0, 1)), (10, (.dup, 1)), (11, (.getfield 28, 3)), (14, (.iconst 1, 1)), (15, (.iadd, 1)), (16, (.putfield 28, 3)), (19, (.aload_n 0, 1)), (20, (.invokevirtual 43, 3)), (23, (.ireturn, 1))] = true := zYQs 0 (by decide +kernel)
theorem dlA_Calc_topShelf_126 : zdal (zb m_Calc_topShelf) [(0, (.bipush 21, 2)), (2, (.aload_n 0, 1)), (3, (.getfield 28, 3)), (6, (.iadd, 1)), (7, (.iconst 1, 1)), (8, (.isub, 1)), (9, (.ireturn, 1))] = true := zYQs 0 (by decide +kernel)
theorem dlA_Sums_copy_127 : zdal (zb m_Sums_copy) [(0, (.iconst 0, 1)), (1, (.istore_n 3, 1)), (2, (.iload_n 3, 1)), (3, (.aload_n 0, 1)), (4, (.getfield 23, 3)), (7, (.getfield 35, 3)), (10, (.if_icmp .ge 35, 3)), (13, (.aload_n 0, 1)), (14, (.getfield 16, 3)), (17, (.iload_n 2, 1)), (18, (.bipush 27, 2)), (20, (.imul, 1)), (21, (.iload_n 3, 1)), (22, (.iadd, 1)), (23, (.aload_n 0, 1)), (24, (.getfield 16, 3)), (27, (.iload_n 1, 1)), (28, (.bipush 27, 2)), (30, (.imul, 1)), (31, (.iload_n 3, 1)), (32, (.iadd, 1)), (33, (.invokevirtual 27, 3)), (36, (.invokevirtual 31, 3)), (39, (.iinc 3 1, 3))] = true := zYQs 0 (by decide +kernel)
theorem dlA_Sums_copy_128 : zdal (zb m_Sums_copy) [(42, (.goto (-40), 3)), (45, (.return_, 1))] = true := zYQs 42 (by decide +kernel)
theorem dlA_LongRow_at_129 : zdal (zb m_LongRow_at) [(0, (.iload_n 1, 1)), (1, (.ifCond .lt 21, 3)), (4, (.iload_n 1, 1)), (5, (.aload_n 0, 1)), (6, (.getfield 13, 3)), (9, (.arraylength, 1)), (10, (.if_icmp .ge 12, 3)), (13, (.aload_n 0, 1)), (14, (.getfield 13, 3)), (17, (.iload_n 1, 1)), (18, (.laload, 1)), (19, (.goto 4, 3)), (22, (.lconst 0, 1)), (23, (.lreturn, 1))] = true := zYQs 0 (by decide +kernel)
theorem dlA_Calc_pushSingle_130 : zdal (zb m_Calc_pushSingle) [(0, (.aload_n 0, 1)), (1, (.getfield 20, 3)), (4, (.aload_n 0, 1)), (5, (.invokevirtual 58, 3)), (8, (.iload_n 1, 1)), (9, (.iload_n 2, 1)), (10, (.i2l, 1)), (11, (.invokevirtual 61, 3)), (14, (.return_, 1))] = true := zYQs 0 (by decide +kernel)
theorem dlA_Reader_readBehind_131 : zdal (zb m_Reader_readBehind) [(0, (.iconst 0, 1)), (1, (.istore_n 2, 1)), (2, (.iload_n 2, 1)), (3, (.bipush 30, 2)), (5, (.if_icmp .gt 115, 3)), (8, (.aload_n 0, 1)), (9, (.getfield 15, 3)), (12, (.bipush 94, 2)), (14, (.invokevirtual 37, 3)), (17, (.ifCond .eq 56, 3)), (20, (.aload_n 0, 1)), (21, (.getfield 15, 3)), (24, (.invokevirtual 44, 3)), (27, (.aload_n 0, 1)), (28, (.getfield 15, 3)), (31, (.invokevirtual 53, 3)), (34, (.ifCond .eq 15, 3)), (37, (.aload_n 0, 1)), (38, (.getfield 15, 3)), (41, (.getfield 57, 3)), (44, (.bipush 9, 2)), (46, (.if_icmp .le 9, 3)), (49, (.aload_n 0, 1)), (50, (.iconst 2, 1))] = true := zYQs 0 (by decide +kernel)
theorem dlA_Reader_readBehind_132 : zdal (zb m_Reader_readBehind) [(51, (.invokevirtual 41, 3)), (54, (.ireturn, 1)), (55, (.aload_n 1, 1)), (56, (.aload_n 0, 1)), (57, (.getfield 15, 3)), (60, (.getfield 57, 3)), (63, (.invokevirtual 179, 3)), (66, (.aload_n 0, 1)), (67, (.getfield 15, 3)), (70, (.invokevirtual 44, 3)), (73, (.aload_n 1, 1)), (74, (.invokevirtual 182, 3)), (77, (.aload_n 1, 1)), (78, (.getfield 142, 3)), (81, (.ifCond .le 15, 3)), (84, (.aload_n 0, 1)), (85, (.getfield 15, 3)), (88, (.bipush 41, 2)), (90, (.invokevirtual 37, 3)), (93, (.ifCond .ne 5, 3)), (96, (.iconst 1, 1)), (97, (.ireturn, 1)), (98, (.aload_n 1, 1)), (99, (.iconst 0, 1))] = true := zYQs 51 (by decide +kernel)
theorem d_Reader_readBehind_93 : decode (zb m_Reader_readBehind) 93 = .ok (.ifCond .ne 5, 3) := zdal_p dlA_Reader_readBehind_132 (i := 19) rfl
theorem d_Reader_readBehind_96 : decode (zb m_Reader_readBehind) 96 = .ok (.iconst 1, 1) := zdal_p dlA_Reader_readBehind_132 (i := 20) rfl
theorem d_Reader_readBehind_97 : decode (zb m_Reader_readBehind) 97 = .ok (.ireturn, 1) := zdal_p dlA_Reader_readBehind_132 (i := 21) rfl
theorem dlA_Reader_readBehind_133 : zdal (zb m_Reader_readBehind) [(100, (.invokevirtual 145, 3)), (103, (.aload_n 1, 1)), (104, (.invokevirtual 185, 3)), (107, (.aload_n 0, 1)), (108, (.getfield 15, 3)), (111, (.invokevirtual 44, 3)), (114, (.iinc 2 1, 3)), (117, (.goto (-115), 3)), (120, (.aload_n 0, 1)), (121, (.iconst 2, 1)), (122, (.invokevirtual 41, 3)), (125, (.ireturn, 1))] = true := zYQs 100 (by decide +kernel)
theorem dlA_Calc_raise_134 : zdal (zb m_Calc_raise) [(0, (.aload_n 0, 1)), (1, (.invokevirtual 43, 3)), (4, (.istore_n 2, 1)), (5, (.aload_n 0, 1)), (6, (.getfield 20, 3)), (9, (.iload_n 2, 1)), (10, (.bipush 39, 2)), (12, (.invokevirtual 65, 3)), (15, (.aload_n 0, 1)), (16, (.getfield 20, 3)), (19, (.iload_n 2, 1)), (20, (.aload_n 0, 1)), (21, (.getfield 20, 3)), (24, (.getfield 68, 3)), (27, (.getfield 72, 3)), (30, (.iconst 1, 1)), (31, (.isub, 1)), (32, (.lconst 1, 1)), (33, (.invokevirtual 61, 3)), (36, (.iconst 0, 1)), (37, (.istore_n 3, 1)), (38, (.iload_n 3, 1)), (39, (.iload_n 1, 1)), (40, (.if_icmp .ge 52, 3))] = true := zYQs 0 (by decide +kernel)
theorem dlA_Calc_raise_135 : zdal (zb m_Calc_raise) [(43, (.iload_n 3, 1)), (44, (.bipush 9, 2)), (46, (.if_icmp .ge 46, 3)), (49, (.aload_n 0, 1)), (50, (.getfield 20, 3)), (53, (.iload_n 2, 1)), (54, (.bipush 39, 2)), (56, (.invokevirtual 77, 3)), (59, (.istore 4, 2)), (61, (.aload_n 0, 1)), (62, (.iload 4, 2)), (64, (.ifCond .eq 18, 3)), (67, (.aload_n 0, 1)), (68, (.getfield 20, 3)), (71, (.iload_n 2, 1)), (72, (.invokevirtual 81, 3)), (75, (.ifCond .eq 7, 3)), (78, (.iconst 1, 1)), (79, (.goto 4, 3)), (82, (.iconst 0, 1)), (83, (.invokevirtual 85, 3)), (86, (.iinc 3 1, 3)), (89, (.goto (-51), 3)), (92, (.return_, 1))] = true := zYQs 43 (by decide +kernel)
theorem d_Calc_raise_83 : decode (zb m_Calc_raise) 83 = .ok (.invokevirtual 85, 3) := zdal_p dlA_Calc_raise_135 (i := 20) rfl
theorem d_Calc_raise_86 : decode (zb m_Calc_raise) 86 = .ok (.iinc 3 1, 3) := zdal_p dlA_Calc_raise_135 (i := 21) rfl
theorem d_Calc_raise_89 : decode (zb m_Calc_raise) 89 = .ok (.goto (-51), 3) := zdal_p dlA_Calc_raise_135 (i := 22) rfl
theorem dlA_Sums_multiply_136 : zdal (zb m_Sums_multiply) [(0, (.iconst 0, 1)), (1, (.istore_n 3, 1)), (2, (.iload_n 3, 1)), (3, (.aload_n 0, 1)), (4, (.getfield 23, 3)), (7, (.getfield 35, 3)), (10, (.if_icmp .ge 65, 3)), (13, (.aload_n 0, 1)), (14, (.iload_n 1, 1)), (15, (.iload_n 3, 1)), (16, (.invokevirtual 50, 3)), (19, (.lstore 4, 2)), (21, (.aload_n 0, 1)), (22, (.iload_n 2, 1)), (23, (.iload_n 3, 1)), (24, (.invokevirtual 50, 3)), (27, (.lstore 6, 2)), (29, (.lload 4, 2)), (31, (.lconst 0, 1)), (32, (.lcmp, 1)), (33, (.ifCond .eq 23, 3)), (36, (.lload 6, 2)), (38, (.invokestatic 74, 3)), (41, (.ldc2_w 80, 3))] = true := zYQs 0 (by decide +kernel)
theorem dlA_Sums_multiply_137 : zdal (zb m_Sums_multiply) [(44, (.lload 4, 2)), (46, (.invokestatic 74, 3)), (49, (.ldiv, 1)), (50, (.lcmp, 1)), (51, (.ifCond .le 5, 3)), (54, (.iconst 0, 1)), (55, (.ireturn, 1)), (56, (.aload_n 0, 1)), (57, (.getfield 20, 3)), (60, (.iload_n 3, 1)), (61, (.lload 4, 2)), (63, (.lload 6, 2)), (65, (.lmul, 1)), (66, (.invokevirtual 31, 3)), (69, (.iinc 3 1, 3)), (72, (.goto (-70), 3)), (75, (.aload_n 0, 1)), (76, (.iload_n 1, 1)), (77, (.invokevirtual 58, 3)), (80, (.iconst 1, 1)), (81, (.ireturn, 1))] = true := zYQs 44 (by decide +kernel)
theorem dlA_Sums_markOf_138 : zdal (zb m_Sums_markOf) [(0, (.lconst 0, 1)), (1, (.lstore_n 3, 1)), (2, (.iconst 0, 1)), (3, (.istore 5, 2)), (5, (.iload 5, 2)), (7, (.aload_n 0, 1)), (8, (.getfield 23, 3)), (11, (.getfield 35, 3)), (14, (.if_icmp .ge 45, 3)), (17, (.lload_n 3, 1)), (18, (.aload_n 0, 1)), (19, (.getfield 16, 3)), (22, (.iload_n 1, 1)), (23, (.bipush 27, 2)), (25, (.imul, 1)), (26, (.iload 5, 2)), (28, (.iadd, 1)), (29, (.invokevirtual 27, 3)), (32, (.aload_n 0, 1)), (33, (.getfield 23, 3)), (36, (.getfield 41, 3)), (39, (.iload 5, 2)), (41, (.bipush 27, 2)), (43, (.imul, 1))] = true := zYQs 0 (by decide +kernel)
theorem dlA_Sums_markOf_139 : zdal (zb m_Sums_markOf) [(44, (.iload_n 2, 1)), (45, (.iadd, 1)), (46, (.invokevirtual 45, 3)), (49, (.i2l, 1)), (50, (.lmul, 1)), (51, (.ladd, 1)), (52, (.lstore_n 3, 1)), (53, (.iinc 5 1, 3)), (56, (.goto (-51), 3)), (59, (.lload_n 3, 1)), (60, (.lreturn, 1))] = true := zYQs 44 (by decide +kernel)
theorem dlA_Sums_solve_140 : zdal (zb m_Sums_solve) [(0, (.aload_n 0, 1)), (1, (.getfield 23, 3)), (4, (.getfield 35, 3)), (7, (.iconst 1, 1)), (8, (.isub, 1)), (9, (.istore_n 2, 1)), (10, (.iload_n 2, 1)), (11, (.ifCond .lt 122, 3)), (14, (.aload_n 0, 1)), (15, (.getfield 20, 3)), (18, (.iload_n 2, 1)), (19, (.invokevirtual 27, 3)), (22, (.lstore_n 3, 1)), (23, (.iload_n 2, 1)), (24, (.iconst 1, 1)), (25, (.iadd, 1)), (26, (.istore 5, 2)), (28, (.iload 5, 2)), (30, (.aload_n 0, 1)), (31, (.getfield 23, 3)), (34, (.getfield 35, 3)), (37, (.if_icmp .ge 45, 3)), (40, (.lload_n 3, 1)), (41, (.aload_n 0, 1))] = true := zYQs 0 (by decide +kernel)
theorem dlA_Sums_solve_141 : zdal (zb m_Sums_solve) [(42, (.getfield 16, 3)), (45, (.iload_n 1, 1)), (46, (.bipush 27, 2)), (48, (.imul, 1)), (49, (.iload 5, 2)), (51, (.iadd, 1)), (52, (.invokevirtual 27, 3)), (55, (.aload_n 0, 1)), (56, (.getfield 23, 3)), (59, (.getfield 41, 3)), (62, (.iload 5, 2)), (64, (.bipush 27, 2)), (66, (.imul, 1)), (67, (.iload_n 2, 1)), (68, (.iadd, 1)), (69, (.invokevirtual 45, 3)), (72, (.i2l, 1)), (73, (.lmul, 1)), (74, (.lsub, 1)), (75, (.lstore_n 3, 1)), (76, (.iinc 5 1, 3)), (79, (.goto (-51), 3)), (82, (.aload_n 0, 1)), (83, (.getfield 23, 3))] = true := zYQs 42 (by decide +kernel)
theorem dlA_Sums_solve_142 : zdal (zb m_Sums_solve) [(86, (.getfield 41, 3)), (89, (.iload_n 2, 1)), (90, (.bipush 27, 2)), (92, (.imul, 1)), (93, (.iload_n 2, 1)), (94, (.iadd, 1)), (95, (.invokevirtual 45, 3)), (98, (.istore 5, 2)), (100, (.aload_n 0, 1)), (101, (.getfield 16, 3)), (104, (.iload_n 1, 1)), (105, (.bipush 27, 2)), (107, (.imul, 1)), (108, (.iload_n 2, 1)), (109, (.iadd, 1)), (110, (.iload 5, 2)), (112, (.ifCond .eq 11, 3)), (115, (.lload_n 3, 1)), (116, (.iload 5, 2)), (118, (.i2l, 1)), (119, (.ldiv, 1)), (120, (.goto 4, 3)), (123, (.lconst 0, 1)), (124, (.invokevirtual 31, 3))] = true := zYQs 86 (by decide +kernel)
theorem dlA_Sums_solve_143 : zdal (zb m_Sums_solve) [(127, (.iinc 2 (-1), 3)), (130, (.goto (-120), 3)), (133, (.return_, 1))] = true := zYQs 127 (by decide +kernel)
theorem dlA_Sums_isInBounds_144 : zdal (zb m_Sums_isInBounds) [(0, (.iconst 0, 1)), (1, (.istore_n 2, 1)), (2, (.iload_n 2, 1)), (3, (.aload_n 0, 1)), (4, (.getfield 23, 3)), (7, (.getfield 35, 3)), (10, (.if_icmp .ge 43, 3)), (13, (.aload_n 0, 1)), (14, (.iload_n 1, 1)), (15, (.iload_n 2, 1)), (16, (.invokevirtual 67, 3)), (19, (.invokestatic 74, 3)), (22, (.ldc2_w 80, 3)), (25, (.lcmp, 1)), (26, (.ifCond .gt 19, 3)), (29, (.aload_n 0, 1)), (30, (.iload_n 1, 1)), (31, (.iload_n 2, 1)), (32, (.invokevirtual 50, 3)), (35, (.invokestatic 74, 3)), (38, (.ldc2_w 80, 3)), (41, (.lcmp, 1)), (42, (.ifCond .le 5, 3)), (45, (.iconst 0, 1))] = true := zYQs 0 (by decide +kernel)
theorem dlA_Sums_isInBounds_145 : zdal (zb m_Sums_isInBounds) [(46, (.ireturn, 1)), (47, (.iinc 2 1, 3)), (50, (.goto (-48), 3)), (53, (.iconst 1, 1)), (54, (.ireturn, 1))] = true := zYQs 46 (by decide +kernel)
theorem dlA_Sums_numberAt_146 : zdal (zb m_Sums_numberAt) [(0, (.aload_n 0, 1)), (1, (.getfield 16, 3)), (4, (.iload_n 1, 1)), (5, (.bipush 27, 2)), (7, (.imul, 1)), (8, (.iload_n 2, 1)), (9, (.iadd, 1)), (10, (.invokevirtual 27, 3)), (13, (.lreturn, 1))] = true := zYQs 0 (by decide +kernel)
theorem dlA_Calc_settle_147 : zdal (zb m_Calc_settle) [(0, (.iload_n 1, 1)), (1, (.ifCond .ne 21, 3)), (4, (.aload_n 0, 1)), (5, (.iconst 1, 1)), (6, (.putfield 37, 3)), (9, (.aload_n 0, 1)), (10, (.getfield 20, 3)), (13, (.aload_n 0, 1)), (14, (.invokevirtual 43, 3)), (17, (.iconst (-1), 1)), (18, (.lconst 0, 1)), (19, (.invokevirtual 61, 3)), (22, (.return_, 1))] = true := zYQs 0 (by decide +kernel)
theorem dlA_Calc_negate_148 : zdal (zb m_Calc_negate) [(0, (.aload_n 0, 1)), (1, (.getfield 24, 3)), (4, (.ifCond .le 46, 3)), (7, (.aload_n 0, 1)), (8, (.invokevirtual 89, 3)), (11, (.bipush 126, 2)), (13, (.if_icmp .ne 37, 3)), (16, (.aload_n 0, 1)), (17, (.dup, 1)), (18, (.getfield 24, 3)), (21, (.iconst 1, 1)), (22, (.isub, 1)), (23, (.putfield 24, 3)), (26, (.aload_n 0, 1)), (27, (.dup, 1)), (28, (.getfield 31, 3)), (31, (.iconst 1, 1)), (32, (.isub, 1)), (33, (.putfield 31, 3)), (36, (.aload_n 0, 1)), (37, (.getfield 20, 3)), (40, (.aload_n 0, 1)), (41, (.invokevirtual 43, 3)), (44, (.invokevirtual 92, 3))] = true := zYQs 0 (by decide +kernel)
theorem dlA_Calc_negate_149 : zdal (zb m_Calc_negate) [(47, (.goto (-47), 3)), (50, (.return_, 1))] = true := zYQs 47 (by decide +kernel)
theorem dlA_Calc_topSign_150 : zdal (zb m_Calc_topSign) [(0, (.aload_n 0, 1)), (1, (.getfield 14, 3)), (4, (.aload_n 0, 1)), (5, (.getfield 24, 3)), (8, (.iconst 1, 1)), (9, (.isub, 1)), (10, (.invokevirtual 51, 3)), (13, (.ireturn, 1))] = true := zYQs 0 (by decide +kernel)
theorem dlA_Sums_putNegative_151 : zdal (zb m_Sums_putNegative) [(0, (.iconst 0, 1)), (1, (.istore_n 2, 1)), (2, (.iload_n 2, 1)), (3, (.aload_n 0, 1)), (4, (.getfield 23, 3)), (7, (.getfield 35, 3)), (10, (.if_icmp .ge 22, 3)), (13, (.aload_n 0, 1)), (14, (.iload_n 1, 1)), (15, (.iload_n 2, 1)), (16, (.aload_n 0, 1)), (17, (.iload_n 1, 1)), (18, (.iload_n 2, 1)), (19, (.invokevirtual 67, 3)), (22, (.lneg, 1)), (23, (.invokevirtual 70, 3)), (26, (.iinc 2 1, 3)), (29, (.goto (-27), 3)), (32, (.return_, 1))] = true := zYQs 0 (by decide +kernel)
theorem dlA_Sums_putNumber_152 : zdal (zb m_Sums_putNumber) [(0, (.aload_n 0, 1)), (1, (.getfield 16, 3)), (4, (.iload_n 1, 1)), (5, (.bipush 27, 2)), (7, (.imul, 1)), (8, (.iload_n 2, 1)), (9, (.iadd, 1)), (10, (.lload_n 3, 1)), (11, (.invokevirtual 31, 3)), (14, (.return_, 1))] = true := zYQs 0 (by decide +kernel)
theorem dlA_Calc_reckon_153 : zdal (zb m_Calc_reckon) [(0, (.aload_n 0, 1)), (1, (.getfield 24, 3)), (4, (.ifCond .le 143, 3)), (7, (.aload_n 0, 1)), (8, (.getfield 28, 3)), (11, (.iconst 1, 1)), (12, (.if_icmp .le 135, 3)), (15, (.aload_n 0, 1)), (16, (.invokevirtual 89, 3)), (19, (.bipush 40, 2)), (21, (.if_icmp .eq 126, 3)), (24, (.aload_n 0, 1)), (25, (.invokevirtual 89, 3)), (28, (.bipush 42, 2)), (30, (.if_icmp .eq 7, 3)), (33, (.iload_n 1, 1)), (34, (.ifCond .ne 113, 3)), (37, (.aload_n 0, 1)), (38, (.invokevirtual 89, 3)), (41, (.istore_n 2, 1)), (42, (.aload_n 0, 1)), (43, (.invokevirtual 43, 3)), (46, (.istore_n 3, 1)), (47, (.aload_n 0, 1))] = true := zYQs 0 (by decide +kernel)
theorem dlA_Calc_reckon_154 : zdal (zb m_Calc_reckon) [(48, (.dup, 1)), (49, (.getfield 24, 3)), (52, (.iconst 1, 1)), (53, (.isub, 1)), (54, (.putfield 24, 3)), (57, (.aload_n 0, 1)), (58, (.dup, 1)), (59, (.getfield 28, 3)), (62, (.iconst 1, 1)), (63, (.isub, 1)), (64, (.putfield 28, 3)), (67, (.iconst 1, 1)), (68, (.istore 4, 2)), (70, (.iload_n 2, 1)), (71, (.bipush 42, 2)), (73, (.if_icmp .ne 20, 3)), (76, (.aload_n 0, 1)), (77, (.getfield 20, 3)), (80, (.aload_n 0, 1)), (81, (.invokevirtual 43, 3)), (84, (.iload_n 3, 1)), (85, (.invokevirtual 77, 3)), (88, (.istore 4, 2)), (90, (.goto 26, 3))] = true := zYQs 48 (by decide +kernel)
theorem dlA_Calc_reckon_155 : zdal (zb m_Calc_reckon) [(93, (.aload_n 0, 1)), (94, (.getfield 20, 3)), (97, (.aload_n 0, 1)), (98, (.invokevirtual 43, 3)), (101, (.iload_n 3, 1)), (102, (.iload_n 2, 1)), (103, (.bipush 43, 2)), (105, (.if_icmp .ne 7, 3)), (108, (.iconst 1, 1)), (109, (.goto 4, 3)), (112, (.iconst (-1), 1)), (113, (.invokevirtual 98, 3)), (116, (.aload_n 0, 1)), (117, (.iload 4, 2)), (119, (.ifCond .eq 21, 3)), (122, (.aload_n 0, 1)), (123, (.getfield 20, 3)), (126, (.aload_n 0, 1)), (127, (.invokevirtual 43, 3)), (130, (.invokevirtual 81, 3)), (133, (.ifCond .eq 7, 3)), (136, (.iconst 1, 1)), (137, (.goto 4, 3)), (140, (.iconst 0, 1))] = true := zYQs 93 (by decide +kernel)
theorem d_Calc_reckon_113 : decode (zb m_Calc_reckon) 113 = .ok (.invokevirtual 98, 3) := zdal_p dlA_Calc_reckon_155 (i := 11) rfl
theorem d_Calc_reckon_116 : decode (zb m_Calc_reckon) 116 = .ok (.aload_n 0, 1) := zdal_p dlA_Calc_reckon_155 (i := 12) rfl
theorem d_Calc_reckon_117 : decode (zb m_Calc_reckon) 117 = .ok (.iload 4, 2) := zdal_p dlA_Calc_reckon_155 (i := 13) rfl
theorem d_Calc_reckon_119 : decode (zb m_Calc_reckon) 119 = .ok (.ifCond .eq 21, 3) := zdal_p dlA_Calc_reckon_155 (i := 14) rfl
theorem d_Calc_reckon_122 : decode (zb m_Calc_reckon) 122 = .ok (.aload_n 0, 1) := zdal_p dlA_Calc_reckon_155 (i := 15) rfl
theorem d_Calc_reckon_123 : decode (zb m_Calc_reckon) 123 = .ok (.getfield 20, 3) := zdal_p dlA_Calc_reckon_155 (i := 16) rfl
theorem d_Calc_reckon_126 : decode (zb m_Calc_reckon) 126 = .ok (.aload_n 0, 1) := zdal_p dlA_Calc_reckon_155 (i := 17) rfl
theorem d_Calc_reckon_127 : decode (zb m_Calc_reckon) 127 = .ok (.invokevirtual 43, 3) := zdal_p dlA_Calc_reckon_155 (i := 18) rfl
theorem d_Calc_reckon_130 : decode (zb m_Calc_reckon) 130 = .ok (.invokevirtual 81, 3) := zdal_p dlA_Calc_reckon_155 (i := 19) rfl
theorem d_Calc_reckon_133 : decode (zb m_Calc_reckon) 133 = .ok (.ifCond .eq 7, 3) := zdal_p dlA_Calc_reckon_155 (i := 20) rfl
theorem d_Calc_reckon_136 : decode (zb m_Calc_reckon) 136 = .ok (.iconst 1, 1) := zdal_p dlA_Calc_reckon_155 (i := 21) rfl
theorem d_Calc_reckon_137 : decode (zb m_Calc_reckon) 137 = .ok (.goto 4, 3) := zdal_p dlA_Calc_reckon_155 (i := 22) rfl
theorem d_Calc_reckon_140 : decode (zb m_Calc_reckon) 140 = .ok (.iconst 0, 1) := zdal_p dlA_Calc_reckon_155 (i := 23) rfl
theorem dlA_Calc_reckon_156 : zdal (zb m_Calc_reckon) [(141, (.invokevirtual 85, 3)), (144, (.goto (-144), 3)), (147, (.return_, 1))] = true := zYQs 141 (by decide +kernel)
theorem d_Calc_reckon_141 : decode (zb m_Calc_reckon) 141 = .ok (.invokevirtual 85, 3) := zdal_p dlA_Calc_reckon_156 (i := 0) rfl
theorem d_Calc_reckon_144 : decode (zb m_Calc_reckon) 144 = .ok (.goto (-144), 3) := zdal_p dlA_Calc_reckon_156 (i := 1) rfl
theorem d_Calc_reckon_147 : decode (zb m_Calc_reckon) 147 = .ok (.return_, 1) := zdal_p dlA_Calc_reckon_156 (i := 2) rfl
theorem dlA_Sums_add_157 : zdal (zb m_Sums_add) [(0, (.iconst 0, 1)), (1, (.istore 4, 2)), (3, (.iload 4, 2)), (5, (.aload_n 0, 1)), (6, (.getfield 23, 3)), (9, (.getfield 35, 3)), (12, (.if_icmp .ge 34, 3)), (15, (.aload_n 0, 1)), (16, (.iload_n 1, 1)), (17, (.iload 4, 2)), (19, (.aload_n 0, 1)), (20, (.iload_n 1, 1)), (21, (.iload 4, 2)), (23, (.invokevirtual 67, 3)), (26, (.iload_n 3, 1)), (27, (.i2l, 1)), (28, (.aload_n 0, 1)), (29, (.iload_n 2, 1)), (30, (.iload 4, 2)), (32, (.invokevirtual 67, 3)), (35, (.lmul, 1)), (36, (.ladd, 1)), (37, (.invokevirtual 70, 3)), (40, (.iinc 4 1, 3))] = true := zYQs 0 (by decide +kernel)
theorem dlA_Sums_add_158 : zdal (zb m_Sums_add) [(43, (.goto (-40), 3)), (46, (.return_, 1))] = true := zYQs 43 (by decide +kernel)
theorem dlA_Calc_close_159 : zdal (zb m_Calc_close) [(0, (.aload_n 0, 1)), (1, (.getfield 24, 3)), (4, (.ifCond .le 33, 3)), (7, (.aload_n 0, 1)), (8, (.dup, 1)), (9, (.getfield 24, 3)), (12, (.iconst 1, 1)), (13, (.isub, 1)), (14, (.putfield 24, 3)), (17, (.aload_n 0, 1)), (18, (.dup, 1)), (19, (.getfield 31, 3)), (22, (.iconst 1, 1)), (23, (.isub, 1)), (24, (.putfield 31, 3)), (27, (.aload_n 0, 1)), (28, (.dup, 1)), (29, (.getfield 34, 3)), (32, (.iconst 1, 1)), (33, (.isub, 1)), (34, (.putfield 34, 3)), (37, (.return_, 1))] = true := zYQs 0 (by decide +kernel)
theorem dlA_Calc_put_160 : zdal (zb m_Calc_put) [(0, (.aload_n 0, 1)), (1, (.iload_n 1, 1)), (2, (.bipush 42, 2)), (4, (.if_icmp .ne 7, 3)), (7, (.iconst 1, 1)), (8, (.goto 4, 3)), (11, (.iconst 0, 1)), (12, (.invokevirtual 95, 3)), (15, (.aload_n 0, 1)), (16, (.iload_n 1, 1)), (17, (.invokevirtual 55, 3)), (20, (.return_, 1))] = true := zYQs 0 (by decide +kernel)
theorem dlA_Troupe_addName_161 : zdal (zb m_Troupe_addName) [(0, (.aload_n 0, 1)), (1, (.getfield 64, 3)), (4, (.bipush 8, 2)), (6, (.if_icmp .ge 40, 3)), (9, (.aload_n 0, 1)), (10, (.getfield 57, 3)), (13, (.aload_n 0, 1)), (14, (.getfield 64, 3)), (17, (.iload_n 1, 1)), (18, (.invokevirtual 89, 3)), (21, (.aload_n 0, 1)), (22, (.getfield 32, 3)), (25, (.bipush 21, 2)), (27, (.iconst 1, 1)), (28, (.aload_n 0, 1)), (29, (.getfield 64, 3)), (32, (.iadd, 1)), (33, (.invokevirtual 93, 3)), (36, (.aload_n 0, 1)), (37, (.dup, 1)), (38, (.getfield 64, 3)), (41, (.iconst 1, 1)), (42, (.iadd, 1)), (43, (.putfield 64, 3))] = true := zYQs 0 (by decide +kernel)
theorem dlA_Troupe_addName_162 : zdal (zb m_Troupe_addName) [(46, (.return_, 1))] = true := zYQs 46 (by decide +kernel)
theorem dlA_T_fault_163 : zdal (zb m_T_fault) [(0, (.iload_n 1, 1)), (1, (.ifCond .ne 11, 3)), (4, (.aload_n 0, 1)), (5, (.getfield 21, 3)), (8, (.getfield 70, 3)), (11, (.ireturn, 1)), (12, (.iload_n 1, 1)), (13, (.iconst 1, 1)), (14, (.if_icmp .ne 13, 3)), (17, (.aload_n 0, 1)), (18, (.getfield 21, 3)), (21, (.getfield 73, 3)), (24, (.goto 4, 3)), (27, (.iconst (-1), 1)), (28, (.ireturn, 1))] = true := zYQs 0 (by decide +kernel)
theorem dlA_T_about_164 : zdal (zb m_T_about) [(0, (.iload_n 1, 1)), (1, (.tableswitch 159 0 8 #[51, 62, 73, 81, 92, 103, 114, 143, 151], 51)), (52, (.aload_n 0, 1)), (53, (.getfield 28, 3)), (56, (.getfield 61, 3)), (59, (.getfield 76, 3)), (62, (.ireturn, 1)), (63, (.aload_n 0, 1)), (64, (.getfield 28, 3)), (67, (.getfield 61, 3)), (70, (.getfield 79, 3)), (73, (.ireturn, 1)), (74, (.aload_n 0, 1)), (75, (.getfield 28, 3)), (78, (.getfield 82, 3)), (81, (.ireturn, 1)), (82, (.aload_n 0, 1)), (83, (.getfield 28, 3)), (86, (.getfield 61, 3)), (89, (.getfield 65, 3)), (92, (.ireturn, 1)), (93, (.aload_n 0, 1)), (94, (.getfield 28, 3)), (97, (.getfield 85, 3))] = true := zYQs 0 (by decide +kernel)
theorem d_T_about_1 : decode (zb m_T_about) 1 = .ok (.tableswitch 159 0 8 #[51, 62, 73, 81, 92, 103, 114, 143, 151], 51) := zdal_p dlA_T_about_164 (i := 1) rfl
theorem dlA_T_about_165 : zdal (zb m_T_about) [(100, (.getfield 89, 3)), (103, (.ireturn, 1)), (104, (.aload_n 0, 1)), (105, (.getfield 28, 3)), (108, (.getfield 85, 3)), (111, (.getfield 94, 3)), (114, (.ireturn, 1)), (115, (.aload_n 0, 1)), (116, (.getfield 28, 3)), (119, (.getfield 61, 3)), (122, (.aload_n 0, 1)), (123, (.getfield 28, 3)), (126, (.getfield 61, 3)), (129, (.invokevirtual 97, 3)), (132, (.invokevirtual 101, 3)), (135, (.ifCond .eq 7, 3)), (138, (.iconst 1, 1)), (139, (.goto 4, 3)), (142, (.iconst 0, 1)), (143, (.ireturn, 1)), (144, (.aload_n 0, 1)), (145, (.getfield 28, 3)), (148, (.getfield 105, 3)), (151, (.ireturn, 1))] = true := zYQs 100 (by decide +kernel)
theorem dlA_T_about_166 : zdal (zb m_T_about) [(152, (.aload_n 0, 1)), (153, (.getfield 10, 3)), (156, (.getfield 42, 3)), (159, (.ireturn, 1)), (160, (.iconst (-1), 1)), (161, (.ireturn, 1))] = true := zYQs 152 (by decide +kernel)
theorem dlA_Group_everyone_167 : zdal (zb m_Group_everyone) [(0, (.iconst 1, 1)), (1, (.aload_n 0, 1)), (2, (.getfield 39, 3)), (5, (.ishl, 1)), (6, (.iconst 1, 1)), (7, (.isub, 1)), (8, (.ireturn, 1))] = true := zYQs 0 (by decide +kernel)
theorem dlB_Group_isCommuting_0 : zdal (zb m_Group_isCommuting) [(0, (.aload_n 0, 1)), (1, (.iload_n 1, 1)), (2, (.invokevirtual 100, 3)), (5, (.iload_n 1, 1)), (6, (.if_icmp .ne 7, 3)), (9, (.iconst 1, 1)), (10, (.goto 4, 3)), (13, (.iconst 0, 1)), (14, (.ireturn, 1))] = true := zYQs 0 (by decide +kernel)
theorem dlB_Group_centreOf_1 : zdal (zb m_Group_centreOf) [(0, (.iload_n 1, 1)), (1, (.istore_n 2, 1)), (2, (.iconst 0, 1)), (3, (.istore_n 3, 1)), (4, (.iload_n 3, 1)), (5, (.aload_n 0, 1)), (6, (.getfield 39, 3)), (9, (.if_icmp .ge 26, 3)), (12, (.iload_n 1, 1)), (13, (.iload_n 3, 1)), (14, (.invokestatic 73, 3)), (17, (.ifCond .eq 12, 3)), (20, (.iload_n 2, 1)), (21, (.aload_n 0, 1)), (22, (.iload_n 3, 1)), (23, (.iload_n 1, 1)), (24, (.invokevirtual 97, 3)), (27, (.iand, 1)), (28, (.istore_n 2, 1)), (29, (.iinc 3 1, 3)), (32, (.goto (-28), 3)), (35, (.iload_n 2, 1)), (36, (.ireturn, 1))] = true := zYQs 0 (by decide +kernel)
theorem dlB_Group_commutingWith_2 : zdal (zb m_Group_commutingWith) [(0, (.iconst 0, 1)), (1, (.istore_n 3, 1)), (2, (.iconst 0, 1)), (3, (.istore 4, 2)), (5, (.iload 4, 2)), (7, (.aload_n 0, 1)), (8, (.getfield 39, 3)), (11, (.if_icmp .ge 42, 3)), (14, (.iload_n 2, 1)), (15, (.iload 4, 2)), (17, (.invokestatic 73, 3)), (20, (.ifCond .eq 27, 3)), (23, (.aload_n 0, 1)), (24, (.iload_n 1, 1)), (25, (.iload 4, 2)), (27, (.invokevirtual 67, 3)), (30, (.aload_n 0, 1)), (31, (.iload 4, 2)), (33, (.iload_n 1, 1)), (34, (.invokevirtual 67, 3)), (37, (.if_icmp .ne 10, 3)), (40, (.iload_n 3, 1)), (41, (.iconst 1, 1)), (42, (.iload 4, 2))] = true := zYQs 0 (by decide +kernel)
theorem dlB_Group_commutingWith_3 : zdal (zb m_Group_commutingWith) [(44, (.ishl, 1)), (45, (.ior, 1)), (46, (.istore_n 3, 1)), (47, (.iinc 4 1, 3)), (50, (.goto (-45), 3)), (53, (.iload_n 3, 1)), (54, (.ireturn, 1))] = true := zYQs 44 (by decide +kernel)
theorem dlB_T_moves_4 : zdal (zb m_T_moves) [(0, (.aload_n 0, 1)), (1, (.getfield 28, 3)), (4, (.getfield 61, 3)), (7, (.astore_n 3, 1)), (8, (.aload_n 3, 1)), (9, (.iload_n 1, 1)), (10, (.invokevirtual 108, 3)), (13, (.ifCond .eq 26, 3)), (16, (.aload_n 3, 1)), (17, (.iload_n 2, 1)), (18, (.invokevirtual 111, 3)), (21, (.ifCond .eq 18, 3)), (24, (.aload_n 3, 1)), (25, (.getfield 114, 3)), (28, (.iload_n 1, 1)), (29, (.invokevirtual 118, 3)), (32, (.iload_n 2, 1)), (33, (.invokestatic 124, 3)), (36, (.goto 4, 3)), (39, (.iconst (-1), 1)), (40, (.ireturn, 1))] = true := zYQs 0 (by decide +kernel)
theorem dlB_Group_hasMember_5 : zdal (zb m_Group_hasMember) [(0, (.iload_n 1, 1)), (1, (.ifCond .lt 15, 3)), (4, (.iload_n 1, 1)), (5, (.aload_n 0, 1)), (6, (.getfield 39, 3)), (9, (.if_icmp .ge 7, 3)), (12, (.iconst 1, 1)), (13, (.goto 4, 3)), (16, (.iconst 0, 1)), (17, (.ireturn, 1))] = true := zYQs 0 (by decide +kernel)
theorem dlB_Group_hasPlace_6 : zdal (zb m_Group_hasPlace) [(0, (.iload_n 1, 1)), (1, (.ifCond .lt 15, 3)), (4, (.iload_n 1, 1)), (5, (.aload_n 0, 1)), (6, (.getfield 32, 3)), (9, (.if_icmp .ge 7, 3)), (12, (.iconst 1, 1)), (13, (.goto 4, 3)), (16, (.iconst 0, 1)), (17, (.ireturn, 1))] = true := zYQs 0 (by decide +kernel)
theorem dlB_T_times_7 : zdal (zb m_T_times) [(0, (.aload_n 0, 1)), (1, (.getfield 28, 3)), (4, (.getfield 61, 3)), (7, (.iload_n 1, 1)), (8, (.invokevirtual 108, 3)), (11, (.ifCond .eq 32, 3)), (14, (.aload_n 0, 1)), (15, (.getfield 28, 3)), (18, (.getfield 61, 3)), (21, (.iload_n 2, 1)), (22, (.invokevirtual 108, 3)), (25, (.ifCond .eq 18, 3)), (28, (.aload_n 0, 1)), (29, (.getfield 28, 3)), (32, (.getfield 61, 3)), (35, (.iload_n 1, 1)), (36, (.iload_n 2, 1)), (37, (.invokevirtual 128, 3)), (40, (.goto 4, 3)), (43, (.iconst (-1), 1)), (44, (.ireturn, 1))] = true := zYQs 0 (by decide +kernel)
theorem dlB_T_order_8 : zdal (zb m_T_order) [(0, (.aload_n 0, 1)), (1, (.getfield 28, 3)), (4, (.getfield 61, 3)), (7, (.iload_n 1, 1)), (8, (.invokevirtual 108, 3)), (11, (.ifCond .eq 17, 3)), (14, (.aload_n 0, 1)), (15, (.getfield 28, 3)), (18, (.getfield 61, 3)), (21, (.iload_n 1, 1)), (22, (.invokevirtual 131, 3)), (25, (.goto 4, 3)), (28, (.iconst (-1), 1)), (29, (.ireturn, 1))] = true := zYQs 0 (by decide +kernel)
theorem dlB_Group_repeatsOf_9 : zdal (zb m_Group_repeatsOf) [(0, (.iload_n 1, 1)), (1, (.istore_n 2, 1)), (2, (.iconst 1, 1)), (3, (.istore_n 3, 1)), (4, (.iload_n 2, 1)), (5, (.ifCond .eq 22, 3)), (8, (.iload_n 3, 1)), (9, (.bipush 24, 2)), (11, (.if_icmp .ge 16, 3)), (14, (.aload_n 0, 1)), (15, (.iload_n 2, 1)), (16, (.iload_n 1, 1)), (17, (.invokevirtual 67, 3)), (20, (.istore_n 2, 1)), (21, (.iinc 3 1, 3)), (24, (.goto (-20), 3)), (27, (.iload_n 3, 1)), (28, (.ireturn, 1))] = true := zYQs 0 (by decide +kernel)
theorem dlB_T_makesOf_10 : zdal (zb m_T_makesOf) [(0, (.aload_n 0, 1)), (1, (.getfield 28, 3)), (4, (.getfield 61, 3)), (7, (.iload_n 1, 1)), (8, (.invokevirtual 134, 3)), (11, (.ifCond .eq 17, 3)), (14, (.aload_n 0, 1)), (15, (.getfield 28, 3)), (18, (.getfield 61, 3)), (21, (.iload_n 1, 1)), (22, (.invokevirtual 137, 3)), (25, (.goto 4, 3)), (28, (.iconst (-1), 1)), (29, (.ireturn, 1))] = true := zYQs 0 (by decide +kernel)
theorem dlB_Group_hasMembers_11 : zdal (zb m_Group_hasMembers) [(0, (.iload_n 1, 1)), (1, (.aload_n 0, 1)), (2, (.getfield 39, 3)), (5, (.iushr, 1)), (6, (.ifCond .ne 7, 3)), (9, (.iconst 1, 1)), (10, (.goto 4, 3)), (13, (.iconst 0, 1)), (14, (.ireturn, 1))] = true := zYQs 0 (by decide +kernel)
theorem dlB_T_sortOf_12 : zdal (zb m_T_sortOf) [(0, (.aload_n 0, 1)), (1, (.getfield 28, 3)), (4, (.getfield 61, 3)), (7, (.iload_n 1, 1)), (8, (.invokevirtual 134, 3)), (11, (.ifCond .eq 17, 3)), (14, (.aload_n 0, 1)), (15, (.getfield 28, 3)), (18, (.getfield 85, 3)), (21, (.iload_n 1, 1)), (22, (.invokevirtual 140, 3)), (25, (.goto 4, 3)), (28, (.iconst (-1), 1)), (29, (.ireturn, 1))] = true := zYQs 0 (by decide +kernel)
theorem dlB_Sorts_spannedSort_13 : zdal (zb m_Sorts_spannedSort) [(0, (.aload_n 0, 1)), (1, (.getfield 20, 3)), (4, (.aload_n 0, 1)), (5, (.aload_n 0, 1)), (6, (.getfield 32, 3)), (9, (.iload_n 1, 1)), (10, (.invokevirtual 57, 3)), (13, (.invokevirtual 72, 3)), (16, (.invokevirtual 49, 3)), (19, (.ireturn, 1))] = true := zYQs 0 (by decide +kernel)
theorem dlB_T_sort_14 : zdal (zb m_T_sort) [(0, (.aload_n 0, 1)), (1, (.getfield 28, 3)), (4, (.getfield 85, 3)), (7, (.astore_n 3, 1)), (8, (.aload_n 3, 1)), (9, (.iload_n 1, 1)), (10, (.invokevirtual 143, 3)), (13, (.ifCond .ne 5, 3)), (16, (.iconst (-1), 1)), (17, (.ireturn, 1)), (18, (.aload_n 3, 1)), (19, (.getfield 146, 3)), (22, (.iload_n 1, 1)), (23, (.invokevirtual 118, 3)), (26, (.istore 4, 2)), (28, (.iload_n 2, 1)), (29, (.tableswitch 112 0 5 #[39, 45, 51, 54, 70, 91], 39)), (68, (.iload 4, 2)), (70, (.invokestatic 149, 3)), (73, (.ireturn, 1)), (74, (.aload_n 3, 1)), (75, (.iload_n 1, 1)), (76, (.invokevirtual 154, 3)), (79, (.ireturn, 1))] = true := zYQs 0 (by decide +kernel)
theorem d_T_sort_29 : decode (zb m_T_sort) 29 = .ok (.tableswitch 112 0 5 #[39, 45, 51, 54, 70, 91], 39) := zdal_p dlB_T_sort_14 (i := 16) rfl
theorem dlB_T_sort_15 : zdal (zb m_T_sort) [(80, (.iload 4, 2)), (82, (.ireturn, 1)), (83, (.aload_n 0, 1)), (84, (.getfield 28, 3)), (87, (.getfield 61, 3)), (90, (.iload 4, 2)), (92, (.invokevirtual 157, 3)), (95, (.invokestatic 149, 3)), (98, (.ireturn, 1)), (99, (.aload_n 0, 1)), (100, (.getfield 28, 3)), (103, (.getfield 61, 3)), (106, (.iload 4, 2)), (108, (.invokevirtual 160, 3)), (111, (.ifCond .eq 7, 3)), (114, (.iconst 1, 1)), (115, (.goto 4, 3)), (118, (.iconst 0, 1)), (119, (.ireturn, 1)), (120, (.aload_n 0, 1)), (121, (.getfield 28, 3)), (124, (.getfield 61, 3)), (127, (.iload 4, 2)), (129, (.invokevirtual 101, 3))] = true := zYQs 80 (by decide +kernel)
theorem dlB_T_sort_16 : zdal (zb m_T_sort) [(132, (.ifCond .eq 7, 3)), (135, (.iconst 1, 1)), (136, (.goto 4, 3)), (139, (.iconst 0, 1)), (140, (.ireturn, 1)), (141, (.iconst (-1), 1)), (142, (.ireturn, 1))] = true := zYQs 132 (by decide +kernel)
theorem dlB_Sorts_hasSort_17 : zdal (zb m_Sorts_hasSort) [(0, (.iload_n 1, 1)), (1, (.ifCond .lt 15, 3)), (4, (.iload_n 1, 1)), (5, (.aload_n 0, 1)), (6, (.getfield 83, 3)), (9, (.if_icmp .ge 7, 3)), (12, (.iconst 1, 1)), (13, (.goto 4, 3)), (16, (.iconst 0, 1)), (17, (.ireturn, 1))] = true := zYQs 0 (by decide +kernel)
theorem d_Sorts_hasSort_17 : decode (zb m_Sorts_hasSort) 17 = .ok (.ireturn, 1) := zdal_p dlB_Sorts_hasSort_17 (i := 9) rfl
theorem dlB_Sorts_countOf_18 : zdal (zb m_Sorts_countOf) [(0, (.aload_n 0, 1)), (1, (.iload_n 1, 1)), (2, (.aload_n 0, 1)), (3, (.getfield 83, 3)), (6, (.iconst 1, 1)), (7, (.isub, 1)), (8, (.invokevirtual 99, 3)), (11, (.ireturn, 1))] = true := zYQs 0 (by decide +kernel)
theorem dlB_Sorts_countWithin_19 : zdal (zb m_Sorts_countWithin) [(0, (.iconst 0, 1)), (1, (.istore_n 3, 1)), (2, (.iconst 0, 1)), (3, (.istore 4, 2)), (5, (.iload 4, 2)), (7, (.aload_n 0, 1)), (8, (.getfield 36, 3)), (11, (.if_icmp .ge 48, 3)), (14, (.aload_n 0, 1)), (15, (.getfield 20, 3)), (18, (.iload 4, 2)), (20, (.invokevirtual 49, 3)), (23, (.iload_n 1, 1)), (24, (.if_icmp .ne 29, 3)), (27, (.aload_n 0, 1)), (28, (.getfield 14, 3)), (31, (.iload 4, 2)), (33, (.invokevirtual 49, 3)), (36, (.aload_n 0, 1)), (37, (.getfield 26, 3)), (40, (.iload_n 2, 1)), (41, (.invokevirtual 49, 3)), (44, (.invokestatic 96, 3)), (47, (.ifCond .eq 6, 3))] = true := zYQs 0 (by decide +kernel)
theorem dlB_Sorts_countWithin_20 : zdal (zb m_Sorts_countWithin) [(50, (.iinc 3 1, 3)), (53, (.iinc 4 1, 3)), (56, (.goto (-51), 3)), (59, (.iload_n 3, 1)), (60, (.ireturn, 1))] = true := zYQs 50 (by decide +kernel)
theorem dlB_Group_normOf_21 : zdal (zb m_Group_normOf) [(0, (.iconst 0, 1)), (1, (.istore_n 2, 1)), (2, (.iconst 0, 1)), (3, (.istore_n 3, 1)), (4, (.iload_n 3, 1)), (5, (.aload_n 0, 1)), (6, (.getfield 39, 3)), (9, (.if_icmp .ge 25, 3)), (12, (.aload_n 0, 1)), (13, (.iload_n 1, 1)), (14, (.iload_n 3, 1)), (15, (.invokevirtual 80, 3)), (18, (.iload_n 1, 1)), (19, (.if_icmp .ne 9, 3)), (22, (.iload_n 2, 1)), (23, (.iconst 1, 1)), (24, (.iload_n 3, 1)), (25, (.ishl, 1)), (26, (.ior, 1)), (27, (.istore_n 2, 1)), (28, (.iinc 3 1, 3)), (31, (.goto (-27), 3)), (34, (.iload_n 2, 1)), (35, (.ireturn, 1))] = true := zYQs 0 (by decide +kernel)
theorem dlB_Group_isMadeByOne_22 : zdal (zb m_Group_isMadeByOne) [(0, (.iload_n 1, 1)), (1, (.invokestatic 83, 3)), (4, (.istore_n 2, 1)), (5, (.iconst 0, 1)), (6, (.istore_n 3, 1)), (7, (.iload_n 3, 1)), (8, (.aload_n 0, 1)), (9, (.getfield 39, 3)), (12, (.if_icmp .ge 28, 3)), (15, (.iload_n 1, 1)), (16, (.iload_n 3, 1)), (17, (.invokestatic 73, 3)), (20, (.ifCond .eq 14, 3)), (23, (.aload_n 0, 1)), (24, (.iload_n 3, 1)), (25, (.invokevirtual 70, 3)), (28, (.iload_n 2, 1)), (29, (.if_icmp .ne 5, 3)), (32, (.iconst 1, 1)), (33, (.ireturn, 1)), (34, (.iinc 3 1, 3)), (37, (.goto (-30), 3)), (40, (.iconst 0, 1)), (41, (.ireturn, 1))] = true := zYQs 0 (by decide +kernel)
theorem dlB_T_within_23 : zdal (zb m_T_within) [(0, (.aload_n 0, 1)), (1, (.getfield 28, 3)), (4, (.getfield 85, 3)), (7, (.iload_n 1, 1)), (8, (.invokevirtual 143, 3)), (11, (.ifCond .eq 32, 3)), (14, (.aload_n 0, 1)), (15, (.getfield 28, 3)), (18, (.getfield 85, 3)), (21, (.iload_n 2, 1)), (22, (.invokevirtual 143, 3)), (25, (.ifCond .eq 18, 3)), (28, (.aload_n 0, 1)), (29, (.getfield 28, 3)), (32, (.getfield 85, 3)), (35, (.iload_n 1, 1)), (36, (.iload_n 2, 1)), (37, (.invokevirtual 163, 3)), (40, (.goto 4, 3)), (43, (.iconst (-1), 1)), (44, (.ireturn, 1))] = true := zYQs 0 (by decide +kernel)
theorem dlB_T_mark_24 : zdal (zb m_T_mark) [(0, (.aload_n 0, 1)), (1, (.getfield 28, 3)), (4, (.getfield 85, 3)), (7, (.iload_n 1, 1)), (8, (.invokevirtual 143, 3)), (11, (.ifCond .eq 32, 3)), (14, (.aload_n 0, 1)), (15, (.getfield 28, 3)), (18, (.getfield 85, 3)), (21, (.iload_n 2, 1)), (22, (.invokevirtual 143, 3)), (25, (.ifCond .eq 18, 3)), (28, (.aload_n 0, 1)), (29, (.getfield 28, 3)), (32, (.getfield 85, 3)), (35, (.iload_n 1, 1)), (36, (.iload_n 2, 1)), (37, (.invokevirtual 166, 3)), (40, (.goto 4, 3)), (43, (.iconst (-1), 1)), (44, (.ireturn, 1))] = true := zYQs 0 (by decide +kernel)
theorem dlB_T_product_25 : zdal (zb m_T_product) [(0, (.aload_n 0, 1)), (1, (.getfield 28, 3)), (4, (.getfield 85, 3)), (7, (.astore 4, 2)), (9, (.aload 4, 2)), (11, (.iload_n 1, 1)), (12, (.invokevirtual 143, 3)), (15, (.ifCond .eq 21, 3)), (18, (.aload 4, 2)), (20, (.iload_n 2, 1)), (21, (.invokevirtual 143, 3)), (24, (.ifCond .eq 12, 3)), (27, (.aload 4, 2)), (29, (.iload_n 3, 1)), (30, (.invokevirtual 143, 3)), (33, (.ifCond .ne 5, 3)), (36, (.iconst (-1), 1)), (37, (.ireturn, 1)), (38, (.aload_n 0, 1)), (39, (.getfield 28, 3)), (42, (.getfield 169, 3)), (45, (.iload_n 1, 1)), (46, (.iload_n 2, 1)), (47, (.invokevirtual 173, 3))] = true := zYQs 0 (by decide +kernel)
theorem dlB_T_product_26 : zdal (zb m_T_product) [(50, (.aload_n 0, 1)), (51, (.getfield 28, 3)), (54, (.getfield 169, 3)), (57, (.bipush 39, 2)), (59, (.iload_n 3, 1)), (60, (.invokevirtual 179, 3)), (63, (.l2i, 1)), (64, (.ireturn, 1))] = true := zYQs 50 (by decide +kernel)
theorem dlB_Sums_putProduct_27 : zdal (zb m_Sums_putProduct) [(0, (.iconst 0, 1)), (1, (.istore_n 3, 1)), (2, (.iload_n 3, 1)), (3, (.aload_n 0, 1)), (4, (.getfield 23, 3)), (7, (.getfield 35, 3)), (10, (.if_icmp .ge 38, 3)), (13, (.aload_n 0, 1)), (14, (.getfield 20, 3)), (17, (.iload_n 3, 1)), (18, (.aload_n 0, 1)), (19, (.getfield 23, 3)), (22, (.iload_n 1, 1)), (23, (.iload_n 3, 1)), (24, (.invokevirtual 54, 3)), (27, (.i2l, 1)), (28, (.aload_n 0, 1)), (29, (.getfield 23, 3)), (32, (.iload_n 2, 1)), (33, (.iload_n 3, 1)), (34, (.invokevirtual 54, 3)), (37, (.i2l, 1)), (38, (.lmul, 1)), (39, (.invokevirtual 31, 3))] = true := zYQs 0 (by decide +kernel)
theorem dlB_Sums_putProduct_28 : zdal (zb m_Sums_putProduct) [(42, (.iinc 3 1, 3)), (45, (.goto (-43), 3)), (48, (.aload_n 0, 1)), (49, (.bipush 39, 2)), (51, (.invokevirtual 58, 3)), (54, (.return_, 1))] = true := zYQs 42 (by decide +kernel)
theorem dlB_T_residue_29 : zdal (zb m_T_residue) [(0, (.aload_n 0, 1)), (1, (.getfield 28, 3)), (4, (.getfield 85, 3)), (7, (.iload_n 1, 1)), (8, (.invokevirtual 143, 3)), (11, (.ifCond .eq 25, 3)), (14, (.iload_n 2, 1)), (15, (.invokestatic 183, 3)), (18, (.ifCond .eq 18, 3)), (21, (.aload_n 0, 1)), (22, (.getfield 28, 3)), (25, (.getfield 85, 3)), (28, (.iload_n 1, 1)), (29, (.iload_n 2, 1)), (30, (.invokevirtual 186, 3)), (33, (.goto 4, 3)), (36, (.iconst (-1), 1)), (37, (.ireturn, 1))] = true := zYQs 0 (by decide +kernel)
theorem dlB_T_isPrime_30 : zdal (zb m_T_isPrime) [(0, (.iload_n 0, 1)), (1, (.iconst 2, 1)), (2, (.if_icmp .eq 13, 3)), (5, (.iload_n 0, 1)), (6, (.iconst 3, 1)), (7, (.if_icmp .eq 8, 3)), (10, (.iload_n 0, 1)), (11, (.iconst 5, 1)), (12, (.if_icmp .ne 7, 3)), (15, (.iconst 1, 1)), (16, (.goto 4, 3)), (19, (.iconst 0, 1)), (20, (.ireturn, 1))] = true := zYQs 0 (by decide +kernel)
theorem d_T_isPrime_15 : decode (zb m_T_isPrime) 15 = .ok (.iconst 1, 1) := zdal_p dlB_T_isPrime_30 (i := 9) rfl
theorem d_T_isPrime_16 : decode (zb m_T_isPrime) 16 = .ok (.goto 4, 3) := zdal_p dlB_T_isPrime_30 (i := 10) rfl
theorem d_T_isPrime_20 : decode (zb m_T_isPrime) 20 = .ok (.ireturn, 1) := zdal_p dlB_T_isPrime_30 (i := 12) rfl
theorem dlB_Sorts_residueOf_31 : zdal (zb m_Sorts_residueOf) [(0, (.aload_n 0, 1)), (1, (.getfield 26, 3)), (4, (.iload_n 1, 1)), (5, (.invokevirtual 49, 3)), (8, (.istore_n 3, 1)), (9, (.iconst 0, 1)), (10, (.istore 4, 2)), (12, (.iload 4, 2)), (14, (.aload_n 0, 1)), (15, (.getfield 36, 3)), (18, (.if_icmp .ge 71, 3)), (21, (.aload_n 0, 1)), (22, (.getfield 14, 3)), (25, (.iload 4, 2)), (27, (.invokevirtual 49, 3)), (30, (.istore 5, 2)), (32, (.iload 5, 2)), (34, (.iload_n 3, 1)), (35, (.invokestatic 96, 3)), (38, (.ifCond .eq 45, 3)), (41, (.iload_n 3, 1)), (42, (.aload_n 0, 1)), (43, (.getfield 32, 3)), (46, (.iload 5, 2))] = true := zYQs 0 (by decide +kernel)
theorem dlB_Sorts_residueOf_32 : zdal (zb m_Sorts_residueOf) [(48, (.invokevirtual 102, 3)), (51, (.invokestatic 96, 3)), (54, (.ifCond .eq 29, 3)), (57, (.iload 5, 2)), (59, (.invokestatic 78, 3)), (62, (.iload_n 3, 1)), (63, (.invokestatic 78, 3)), (66, (.iload_n 2, 1)), (67, (.invokestatic 105, 3)), (70, (.ifCond .eq 13, 3)), (73, (.aload_n 0, 1)), (74, (.getfield 20, 3)), (77, (.iload 4, 2)), (79, (.invokevirtual 49, 3)), (82, (.ireturn, 1)), (83, (.iinc 4 1, 3)), (86, (.goto (-74), 3)), (89, (.iload_n 1, 1)), (90, (.ireturn, 1))] = true := zYQs 48 (by decide +kernel)
theorem d_Sorts_residueOf_83 : decode (zb m_Sorts_residueOf) 83 = .ok (.iinc 4 1, 3) := zdal_p dlB_Sorts_residueOf_32 (i := 15) rfl
theorem d_Sorts_residueOf_86 : decode (zb m_Sorts_residueOf) 86 = .ok (.goto (-74), 3) := zdal_p dlB_Sorts_residueOf_32 (i := 16) rfl
theorem dlB_Sorts_isPowerApart_33 : zdal (zb m_Sorts_isPowerApart) [(0, (.iload_n 0, 1)), (1, (.istore_n 3, 1)), (2, (.iload_n 3, 1)), (3, (.ifCond .le 20, 3)), (6, (.iload_n 3, 1)), (7, (.iload_n 1, 1)), (8, (.if_icmp .ge 15, 3)), (11, (.iload_n 2, 1)), (12, (.iconst 1, 1)), (13, (.if_icmp .le 10, 3)), (16, (.iload_n 3, 1)), (17, (.iload_n 2, 1)), (18, (.imul, 1)), (19, (.istore_n 3, 1)), (20, (.goto (-18), 3)), (23, (.iload_n 3, 1)), (24, (.iload_n 1, 1)), (25, (.if_icmp .ne 7, 3)), (28, (.iconst 1, 1)), (29, (.goto 4, 3)), (32, (.iconst 0, 1)), (33, (.ireturn, 1))] = true := zYQs 0 (by decide +kernel)
theorem d_Sorts_isPowerApart_23 : decode (zb m_Sorts_isPowerApart) 23 = .ok (.iload_n 3, 1) := zdal_p dlB_Sorts_isPowerApart_33 (i := 15) rfl
theorem d_Sorts_isPowerApart_24 : decode (zb m_Sorts_isPowerApart) 24 = .ok (.iload_n 1, 1) := zdal_p dlB_Sorts_isPowerApart_33 (i := 16) rfl
theorem d_Sorts_isPowerApart_25 : decode (zb m_Sorts_isPowerApart) 25 = .ok (.if_icmp .ne 7, 3) := zdal_p dlB_Sorts_isPowerApart_33 (i := 17) rfl
theorem d_Sorts_isPowerApart_28 : decode (zb m_Sorts_isPowerApart) 28 = .ok (.iconst 1, 1) := zdal_p dlB_Sorts_isPowerApart_33 (i := 18) rfl
theorem d_Sorts_isPowerApart_29 : decode (zb m_Sorts_isPowerApart) 29 = .ok (.goto 4, 3) := zdal_p dlB_Sorts_isPowerApart_33 (i := 19) rfl
theorem d_Sorts_isPowerApart_32 : decode (zb m_Sorts_isPowerApart) 32 = .ok (.iconst 0, 1) := zdal_p dlB_Sorts_isPowerApart_33 (i := 20) rfl
theorem d_Sorts_isPowerApart_33 : decode (zb m_Sorts_isPowerApart) 33 = .ok (.ireturn, 1) := zdal_p dlB_Sorts_isPowerApart_33 (i := 21) rfl
theorem dlB_T_block_34 : zdal (zb m_T_block) [(0, (.aload_n 0, 1)), (1, (.getfield 28, 3)), (4, (.getfield 85, 3)), (7, (.iload_n 1, 1)), (8, (.invokevirtual 143, 3)), (11, (.ifCond .eq 25, 3)), (14, (.iload_n 2, 1)), (15, (.invokestatic 183, 3)), (18, (.ifCond .eq 18, 3)), (21, (.aload_n 0, 1)), (22, (.getfield 28, 3)), (25, (.getfield 85, 3)), (28, (.iload_n 1, 1)), (29, (.iload_n 2, 1)), (30, (.invokevirtual 189, 3)), (33, (.goto 4, 3)), (36, (.iconst (-1), 1)), (37, (.ireturn, 1))] = true := zYQs 0 (by decide +kernel)
theorem dlB_Sorts_blockOf_35 : zdal (zb m_Sorts_blockOf) [(0, (.aload_n 0, 1)), (1, (.iload_n 1, 1)), (2, (.iload_n 2, 1)), (3, (.invokevirtual 109, 3)), (6, (.istore_n 3, 1)), (7, (.iconst 0, 1)), (8, (.istore 4, 2)), (10, (.iconst 0, 1)), (11, (.istore 5, 2)), (13, (.iload 5, 2)), (15, (.aload_n 0, 1)), (16, (.getfield 83, 3)), (19, (.if_icmp .ge 29, 3)), (22, (.aload_n 0, 1)), (23, (.iload 5, 2)), (25, (.iload_n 2, 1)), (26, (.invokevirtual 109, 3)), (29, (.iload_n 3, 1)), (30, (.if_icmp .ne 12, 3)), (33, (.iload 4, 2)), (35, (.iconst 1, 1)), (36, (.iload 5, 2)), (38, (.ishl, 1)), (39, (.ior, 1))] = true := zYQs 0 (by decide +kernel)
theorem dlB_Sorts_blockOf_36 : zdal (zb m_Sorts_blockOf) [(40, (.istore 4, 2)), (42, (.iinc 5 1, 3)), (45, (.goto (-32), 3)), (48, (.iload 4, 2)), (50, (.ireturn, 1))] = true := zYQs 40 (by decide +kernel)
theorem dlB_T_keeper_37 : zdal (zb m_T_keeper) [(0, (.aload_n 0, 1)), (1, (.getfield 28, 3)), (4, (.getfield 61, 3)), (7, (.iload_n 1, 1)), (8, (.invokevirtual 111, 3)), (11, (.ifCond .eq 17, 3)), (14, (.aload_n 0, 1)), (15, (.getfield 28, 3)), (18, (.getfield 61, 3)), (21, (.iload_n 1, 1)), (22, (.invokevirtual 192, 3)), (25, (.goto 4, 3)), (28, (.iconst (-1), 1)), (29, (.ireturn, 1))] = true := zYQs 0 (by decide +kernel)
theorem dlB_Group_keepersOf_38 : zdal (zb m_Group_keepersOf) [(0, (.iconst 0, 1)), (1, (.istore_n 2, 1)), (2, (.iconst 0, 1)), (3, (.istore_n 3, 1)), (4, (.iload_n 3, 1)), (5, (.aload_n 0, 1)), (6, (.getfield 39, 3)), (9, (.if_icmp .ge 31, 3)), (12, (.aload_n 0, 1)), (13, (.getfield 20, 3)), (16, (.iload_n 3, 1)), (17, (.invokevirtual 54, 3)), (20, (.iload_n 1, 1)), (21, (.invokestatic 64, 3)), (24, (.iload_n 1, 1)), (25, (.if_icmp .ne 9, 3)), (28, (.iload_n 2, 1)), (29, (.iconst 1, 1)), (30, (.iload_n 3, 1)), (31, (.ishl, 1)), (32, (.ior, 1)), (33, (.istore_n 2, 1)), (34, (.iinc 3 1, 3)), (37, (.goto (-33), 3))] = true := zYQs 0 (by decide +kernel)
theorem dlB_Group_keepersOf_39 : zdal (zb m_Group_keepersOf) [(40, (.iload_n 2, 1)), (41, (.ireturn, 1))] = true := zYQs 40 (by decide +kernel)
theorem dlB_T_orbit_40 : zdal (zb m_T_orbit) [(0, (.aload_n 0, 1)), (1, (.getfield 28, 3)), (4, (.getfield 61, 3)), (7, (.iload_n 1, 1)), (8, (.invokevirtual 111, 3)), (11, (.ifCond .eq 17, 3)), (14, (.aload_n 0, 1)), (15, (.getfield 28, 3)), (18, (.getfield 61, 3)), (21, (.iload_n 1, 1)), (22, (.invokevirtual 195, 3)), (25, (.goto 4, 3)), (28, (.iconst (-1), 1)), (29, (.ireturn, 1))] = true := zYQs 0 (by decide +kernel)
theorem dlB_Group_reachOf_41 : zdal (zb m_Group_reachOf) [(0, (.aload_n 0, 1)), (1, (.iload_n 1, 1)), (2, (.aload_n 0, 1)), (3, (.invokevirtual 93, 3)), (6, (.invokevirtual 103, 3)), (9, (.ireturn, 1))] = true := zYQs 0 (by decide +kernel)
theorem dlB_Group_placesReached_42 : zdal (zb m_Group_placesReached) [(0, (.iconst 0, 1)), (1, (.istore_n 3, 1)), (2, (.iconst 0, 1)), (3, (.istore 4, 2)), (5, (.iload 4, 2)), (7, (.aload_n 0, 1)), (8, (.getfield 39, 3)), (11, (.if_icmp .ge 36, 3)), (14, (.iload_n 2, 1)), (15, (.iload 4, 2)), (17, (.invokestatic 73, 3)), (20, (.ifCond .eq 21, 3)), (23, (.iload_n 3, 1)), (24, (.iconst 1, 1)), (25, (.aload_n 0, 1)), (26, (.getfield 20, 3)), (29, (.iload 4, 2)), (31, (.invokevirtual 54, 3)), (34, (.iload_n 1, 1)), (35, (.invokestatic 64, 3)), (38, (.ishl, 1)), (39, (.ior, 1)), (40, (.istore_n 3, 1)), (41, (.iinc 4 1, 3))] = true := zYQs 0 (by decide +kernel)
theorem dlB_Group_placesReached_43 : zdal (zb m_Group_placesReached) [(44, (.goto (-39), 3)), (47, (.iload_n 3, 1)), (48, (.ireturn, 1))] = true := zYQs 44 (by decide +kernel)
theorem dlB_T_coset_44 : zdal (zb m_T_coset) [(0, (.aload_n 0, 1)), (1, (.getfield 28, 3)), (4, (.getfield 85, 3)), (7, (.iload_n 1, 1)), (8, (.invokevirtual 143, 3)), (11, (.ifCond .eq 17, 3)), (14, (.aload_n 0, 1)), (15, (.getfield 28, 3)), (18, (.getfield 61, 3)), (21, (.iload_n 2, 1)), (22, (.invokevirtual 108, 3)), (25, (.ifCond .ne 5, 3)), (28, (.iconst (-1), 1)), (29, (.ireturn, 1)), (30, (.aload_n 0, 1)), (31, (.getfield 28, 3)), (34, (.getfield 61, 3)), (37, (.aload_n 0, 1)), (38, (.getfield 28, 3)), (41, (.getfield 85, 3)), (44, (.getfield 146, 3)), (47, (.iload_n 1, 1)), (48, (.invokevirtual 118, 3)), (51, (.iload_n 2, 1))] = true := zYQs 0 (by decide +kernel)
theorem dlB_T_coset_45 : zdal (zb m_T_coset) [(52, (.invokevirtual 198, 3)), (55, (.ireturn, 1))] = true := zYQs 52 (by decide +kernel)
theorem dlB_Group_leastOfCoset_46 : zdal (zb m_Group_leastOfCoset) [(0, (.iload_n 2, 1)), (1, (.istore_n 3, 1)), (2, (.iconst 0, 1)), (3, (.istore 4, 2)), (5, (.iload 4, 2)), (7, (.aload_n 0, 1)), (8, (.getfield 39, 3)), (11, (.if_icmp .ge 30, 3)), (14, (.iload_n 1, 1)), (15, (.iload 4, 2)), (17, (.invokestatic 73, 3)), (20, (.ifCond .eq 15, 3)), (23, (.iload_n 3, 1)), (24, (.aload_n 0, 1)), (25, (.iload 4, 2)), (27, (.iload_n 2, 1)), (28, (.invokevirtual 67, 3)), (31, (.invokestatic 88, 3)), (34, (.istore_n 3, 1)), (35, (.iinc 4 1, 3)), (38, (.goto (-33), 3)), (41, (.iload_n 3, 1)), (42, (.ireturn, 1))] = true := zYQs 0 (by decide +kernel)
theorem dlB_T_takes_47 : zdal (zb m_T_takes) [(0, (.aload_n 0, 1)), (1, (.getfield 28, 3)), (4, (.getfield 85, 3)), (7, (.iload_n 1, 1)), (8, (.invokevirtual 143, 3)), (11, (.ifCond .eq 31, 3)), (14, (.aload_n 0, 1)), (15, (.getfield 28, 3)), (18, (.getfield 61, 3)), (21, (.iload_n 2, 1)), (22, (.invokevirtual 108, 3)), (25, (.ifCond .eq 17, 3)), (28, (.aload_n 0, 1)), (29, (.getfield 28, 3)), (32, (.getfield 61, 3)), (35, (.iload_n 3, 1)), (36, (.invokevirtual 108, 3)), (39, (.ifCond .ne 5, 3)), (42, (.iconst (-1), 1)), (43, (.ireturn, 1)), (44, (.aload_n 0, 1)), (45, (.getfield 28, 3)), (48, (.getfield 61, 3)), (51, (.aload_n 0, 1))] = true := zYQs 0 (by decide +kernel)
theorem dlB_T_takes_48 : zdal (zb m_T_takes) [(52, (.getfield 28, 3)), (55, (.getfield 85, 3)), (58, (.getfield 146, 3)), (61, (.iload_n 1, 1)), (62, (.invokevirtual 118, 3)), (65, (.aload_n 0, 1)), (66, (.getfield 28, 3)), (69, (.getfield 61, 3)), (72, (.iload_n 2, 1)), (73, (.iload_n 3, 1)), (74, (.invokevirtual 128, 3)), (77, (.invokevirtual 198, 3)), (80, (.ireturn, 1))] = true := zYQs 52 (by decide +kernel)
theorem dlB_T_moebius_49 : zdal (zb m_T_moebius) [(0, (.aload_n 0, 1)), (1, (.getfield 28, 3)), (4, (.getfield 85, 3)), (7, (.iload_n 1, 1)), (8, (.invokevirtual 143, 3)), (11, (.ifCond .eq 17, 3)), (14, (.aload_n 0, 1)), (15, (.getfield 28, 3)), (18, (.getfield 85, 3)), (21, (.iload_n 1, 1)), (22, (.invokevirtual 201, 3)), (25, (.goto 5, 3)), (28, (.ldc 204, 2)), (30, (.ireturn, 1))] = true := zYQs 0 (by decide +kernel)
theorem dlB_Sorts_moebiusOf_50 : zdal (zb m_Sorts_moebiusOf) [(0, (.iconst 0, 1)), (1, (.istore_n 2, 1)), (2, (.aload_n 0, 1)), (3, (.getfield 36, 3)), (6, (.iconst 1, 1)), (7, (.isub, 1)), (8, (.istore_n 3, 1)), (9, (.iload_n 3, 1)), (10, (.ifCond .lt 108, 3)), (13, (.iload_n 3, 1)), (14, (.aload_n 0, 1)), (15, (.getfield 36, 3)), (18, (.iconst 1, 1)), (19, (.isub, 1)), (20, (.if_icmp .ne 7, 3)), (23, (.iconst 1, 1)), (24, (.goto 4, 3)), (27, (.iconst 0, 1)), (28, (.istore 4, 2)), (30, (.iload_n 3, 1)), (31, (.iconst 1, 1)), (32, (.iadd, 1)), (33, (.istore 5, 2)), (35, (.iload 5, 2))] = true := zYQs 0 (by decide +kernel)
theorem dlB_Sorts_moebiusOf_51 : zdal (zb m_Sorts_moebiusOf) [(37, (.aload_n 0, 1)), (38, (.getfield 36, 3)), (41, (.if_icmp .ge 46, 3)), (44, (.aload_n 0, 1)), (45, (.getfield 14, 3)), (48, (.iload_n 3, 1)), (49, (.invokevirtual 49, 3)), (52, (.aload_n 0, 1)), (53, (.getfield 14, 3)), (56, (.iload 5, 2)), (58, (.invokevirtual 49, 3)), (61, (.invokestatic 96, 3)), (64, (.ifCond .eq 17, 3)), (67, (.iload 4, 2)), (69, (.aload_n 0, 1)), (70, (.getfield 23, 3)), (73, (.iload 5, 2)), (75, (.invokevirtual 49, 3)), (78, (.isub, 1)), (79, (.istore 4, 2)), (81, (.iinc 5 1, 3)), (84, (.goto (-49), 3)), (87, (.aload_n 0, 1)), (88, (.getfield 23, 3))] = true := zYQs 37 (by decide +kernel)
theorem dlB_Sorts_moebiusOf_52 : zdal (zb m_Sorts_moebiusOf) [(91, (.iload_n 3, 1)), (92, (.iload 4, 2)), (94, (.invokevirtual 40, 3)), (97, (.aload_n 0, 1)), (98, (.getfield 20, 3)), (101, (.iload_n 3, 1)), (102, (.invokevirtual 49, 3)), (105, (.iload_n 1, 1)), (106, (.if_icmp .ne 6, 3)), (109, (.iload 4, 2)), (111, (.istore_n 2, 1)), (112, (.iinc 3 (-1), 3)), (115, (.goto (-106), 3)), (118, (.iload_n 2, 1)), (119, (.ireturn, 1))] = true := zYQs 91 (by decide +kernel)
theorem dlB_T_mixed_53 : zdal (zb m_T_mixed) [(0, (.aload_n 0, 1)), (1, (.getfield 28, 3)), (4, (.getfield 85, 3)), (7, (.iload_n 1, 1)), (8, (.invokevirtual 143, 3)), (11, (.ifCond .ne 5, 3)), (14, (.iconst (-1), 1)), (15, (.ireturn, 1)), (16, (.aload_n 0, 1)), (17, (.getfield 28, 3)), (20, (.getfield 85, 3)), (23, (.aload_n 0, 1)), (24, (.getfield 28, 3)), (27, (.getfield 61, 3)), (30, (.aload_n 0, 1)), (31, (.getfield 28, 3)), (34, (.getfield 85, 3)), (37, (.getfield 146, 3)), (40, (.iload_n 1, 1)), (41, (.invokevirtual 118, 3)), (44, (.invokevirtual 205, 3)), (47, (.invokevirtual 140, 3)), (50, (.ireturn, 1))] = true := zYQs 0 (by decide +kernel)
theorem dlB_Group_mixturesOf_54 : zdal (zb m_Group_mixturesOf) [(0, (.iconst 0, 1)), (1, (.istore_n 2, 1)), (2, (.iconst 0, 1)), (3, (.istore_n 3, 1)), (4, (.iload_n 3, 1)), (5, (.aload_n 0, 1)), (6, (.getfield 39, 3)), (9, (.if_icmp .ge 85, 3)), (12, (.iconst 0, 1)), (13, (.istore 4, 2)), (15, (.iload 4, 2)), (17, (.aload_n 0, 1)), (18, (.getfield 39, 3)), (21, (.if_icmp .ge 67, 3)), (24, (.iload_n 1, 1)), (25, (.iload_n 3, 1)), (26, (.invokestatic 73, 3)), (29, (.ifCond .eq 53, 3)), (32, (.iload_n 1, 1)), (33, (.iload 4, 2)), (35, (.invokestatic 73, 3)), (38, (.ifCond .eq 44, 3)), (41, (.aload_n 0, 1)), (42, (.aload_n 0, 1))] = true := zYQs 0 (by decide +kernel)
theorem dlB_Group_mixturesOf_55 : zdal (zb m_Group_mixturesOf) [(43, (.getfield 26, 3)), (46, (.iload_n 3, 1)), (47, (.invokevirtual 54, 3)), (50, (.aload_n 0, 1)), (51, (.getfield 26, 3)), (54, (.iload 4, 2)), (56, (.invokevirtual 54, 3)), (59, (.invokevirtual 67, 3)), (62, (.istore 5, 2)), (64, (.iload_n 2, 1)), (65, (.iconst 1, 1)), (66, (.aload_n 0, 1)), (67, (.iload 5, 2)), (69, (.aload_n 0, 1)), (70, (.iload_n 3, 1)), (71, (.iload 4, 2)), (73, (.invokevirtual 67, 3)), (76, (.invokevirtual 67, 3)), (79, (.ishl, 1)), (80, (.ior, 1)), (81, (.istore_n 2, 1)), (82, (.iinc 4 1, 3)), (85, (.goto (-70), 3)), (88, (.iinc 3 1, 3))] = true := zYQs 43 (by decide +kernel)
theorem dlB_Group_mixturesOf_56 : zdal (zb m_Group_mixturesOf) [(91, (.goto (-87), 3)), (94, (.iload_n 2, 1)), (95, (.ireturn, 1))] = true := zYQs 91 (by decide +kernel)
theorem dlB_T_centre_57 : zdal (zb m_T_centre) [(0, (.aload_n 0, 1)), (1, (.getfield 28, 3)), (4, (.getfield 85, 3)), (7, (.iload_n 1, 1)), (8, (.invokevirtual 143, 3)), (11, (.ifCond .eq 30, 3)), (14, (.aload_n 0, 1)), (15, (.getfield 28, 3)), (18, (.getfield 61, 3)), (21, (.aload_n 0, 1)), (22, (.getfield 28, 3)), (25, (.getfield 85, 3)), (28, (.getfield 146, 3)), (31, (.iload_n 1, 1)), (32, (.invokevirtual 118, 3)), (35, (.invokevirtual 208, 3)), (38, (.goto 4, 3)), (41, (.iconst (-1), 1)), (42, (.ireturn, 1))] = true := zYQs 0 (by decide +kernel)
theorem dlB_T_pairs_58 : zdal (zb m_T_pairs) [(0, (.aload_n 0, 1)), (1, (.getfield 28, 3)), (4, (.getfield 85, 3)), (7, (.iload_n 1, 1)), (8, (.invokevirtual 143, 3)), (11, (.ifCond .eq 17, 3)), (14, (.aload_n 0, 1)), (15, (.getfield 28, 3)), (18, (.getfield 85, 3)), (21, (.iload_n 2, 1)), (22, (.invokevirtual 143, 3)), (25, (.ifCond .ne 5, 3)), (28, (.iconst (-1), 1)), (29, (.ireturn, 1)), (30, (.aload_n 0, 1)), (31, (.getfield 28, 3)), (34, (.getfield 169, 3)), (37, (.iload_n 1, 1)), (38, (.iload_n 2, 1)), (39, (.invokevirtual 173, 3)), (42, (.aload_n 0, 1)), (43, (.getfield 28, 3)), (46, (.getfield 169, 3)), (49, (.invokevirtual 211, 3))] = true := zYQs 0 (by decide +kernel)
theorem dlB_T_pairs_59 : zdal (zb m_T_pairs) [(52, (.ireturn, 1))] = true := zYQs 52 (by decide +kernel)
theorem dlB_Sums_totalOfWork_60 : zdal (zb m_Sums_totalOfWork) [(0, (.lconst 0, 1)), (1, (.lstore_n 1, 1)), (2, (.iconst 0, 1)), (3, (.istore_n 3, 1)), (4, (.iload_n 3, 1)), (5, (.aload_n 0, 1)), (6, (.getfield 23, 3)), (9, (.getfield 35, 3)), (12, (.if_icmp .ge 19, 3)), (15, (.lload_n 1, 1)), (16, (.aload_n 0, 1)), (17, (.bipush 39, 2)), (19, (.iload_n 3, 1)), (20, (.invokevirtual 67, 3)), (23, (.ladd, 1)), (24, (.lstore_n 1, 1)), (25, (.iinc 3 1, 3)), (28, (.goto (-24), 3)), (31, (.lload_n 1, 1)), (32, (.l2i, 1)), (33, (.ireturn, 1))] = true := zYQs 0 (by decide +kernel)
theorem dlB_T_alike_61 : zdal (zb m_T_alike) [(0, (.aload_n 0, 1)), (1, (.getfield 28, 3)), (4, (.getfield 61, 3)), (7, (.invokevirtual 214, 3)), (10, (.ireturn, 1))] = true := zYQs 0 (by decide +kernel)
theorem dlB_Group_commutingPairs_62 : zdal (zb m_Group_commutingPairs) [(0, (.iconst 0, 1)), (1, (.istore_n 1, 1)), (2, (.iconst 0, 1)), (3, (.istore_n 2, 1)), (4, (.iload_n 2, 1)), (5, (.aload_n 0, 1)), (6, (.getfield 39, 3)), (9, (.if_icmp .ge 24, 3)), (12, (.iload_n 1, 1)), (13, (.aload_n 0, 1)), (14, (.iload_n 2, 1)), (15, (.aload_n 0, 1)), (16, (.invokevirtual 93, 3)), (19, (.invokevirtual 97, 3)), (22, (.invokestatic 83, 3)), (25, (.iadd, 1)), (26, (.istore_n 1, 1)), (27, (.iinc 2 1, 3)), (30, (.goto (-26), 3)), (33, (.iload_n 1, 1)), (34, (.ireturn, 1))] = true := zYQs 0 (by decide +kernel)
theorem dlB_T_meet_63 : zdal (zb m_T_meet) [(0, (.aload_n 0, 1)), (1, (.getfield 28, 3)), (4, (.getfield 85, 3)), (7, (.astore_n 3, 1)), (8, (.aload_n 3, 1)), (9, (.iload_n 1, 1)), (10, (.invokevirtual 143, 3)), (13, (.ifCond .eq 11, 3)), (16, (.aload_n 3, 1)), (17, (.iload_n 2, 1)), (18, (.invokevirtual 143, 3)), (21, (.ifCond .ne 5, 3)), (24, (.iconst (-1), 1)), (25, (.ireturn, 1)), (26, (.aload_n 3, 1)), (27, (.aload_n 3, 1)), (28, (.getfield 146, 3)), (31, (.iload_n 1, 1)), (32, (.invokevirtual 118, 3)), (35, (.aload_n 3, 1)), (36, (.getfield 146, 3)), (39, (.iload_n 2, 1)), (40, (.invokevirtual 118, 3)), (43, (.iand, 1))] = true := zYQs 0 (by decide +kernel)
theorem dlB_T_meet_64 : zdal (zb m_T_meet) [(44, (.invokevirtual 140, 3)), (47, (.ireturn, 1))] = true := zYQs 44 (by decide +kernel)
theorem dlB_T_join_65 : zdal (zb m_T_join) [(0, (.aload_n 0, 1)), (1, (.getfield 28, 3)), (4, (.getfield 85, 3)), (7, (.astore_n 3, 1)), (8, (.aload_n 3, 1)), (9, (.iload_n 1, 1)), (10, (.invokevirtual 143, 3)), (13, (.ifCond .eq 11, 3)), (16, (.aload_n 3, 1)), (17, (.iload_n 2, 1)), (18, (.invokevirtual 143, 3)), (21, (.ifCond .ne 5, 3)), (24, (.iconst (-1), 1)), (25, (.ireturn, 1)), (26, (.aload_n 3, 1)), (27, (.aload_n 3, 1)), (28, (.getfield 146, 3)), (31, (.iload_n 1, 1)), (32, (.invokevirtual 118, 3)), (35, (.aload_n 3, 1)), (36, (.getfield 146, 3)), (39, (.iload_n 2, 1)), (40, (.invokevirtual 118, 3)), (43, (.ior, 1))] = true := zYQs 0 (by decide +kernel)
theorem dlB_T_join_66 : zdal (zb m_T_join) [(44, (.invokevirtual 140, 3)), (47, (.ireturn, 1))] = true := zYQs 44 (by decide +kernel)
theorem dlB_T_orders_67 : zdal (zb m_T_orders) [(0, (.iload_n 1, 1)), (1, (.iconst 1, 1)), (2, (.if_icmp .lt 23, 3)), (5, (.iload_n 1, 1)), (6, (.bipush 24, 2)), (8, (.if_icmp .gt 17, 3)), (11, (.aload_n 0, 1)), (12, (.getfield 28, 3)), (15, (.getfield 61, 3)), (18, (.iload_n 1, 1)), (19, (.invokevirtual 217, 3)), (22, (.goto 4, 3)), (25, (.iconst (-1), 1)), (26, (.ireturn, 1))] = true := zYQs 0 (by decide +kernel)
theorem dlB_Group_countRepeating_68 : zdal (zb m_Group_countRepeating) [(0, (.iconst 0, 1)), (1, (.istore_n 2, 1)), (2, (.iconst 0, 1)), (3, (.istore_n 3, 1)), (4, (.iload_n 3, 1)), (5, (.aload_n 0, 1)), (6, (.getfield 39, 3)), (9, (.if_icmp .ge 21, 3)), (12, (.aload_n 0, 1)), (13, (.iload_n 3, 1)), (14, (.invokevirtual 70, 3)), (17, (.iload_n 1, 1)), (18, (.if_icmp .ne 6, 3)), (21, (.iinc 2 1, 3)), (24, (.iinc 3 1, 3)), (27, (.goto (-23), 3)), (30, (.iload_n 2, 1)), (31, (.ireturn, 1))] = true := zYQs 0 (by decide +kernel)
theorem dlB_T_likes_69 : zdal (zb m_T_likes) [(0, (.aload_n 0, 1)), (1, (.getfield 28, 3)), (4, (.getfield 61, 3)), (7, (.iload_n 1, 1)), (8, (.invokevirtual 108, 3)), (11, (.ifCond .eq 17, 3)), (14, (.aload_n 0, 1)), (15, (.getfield 28, 3)), (18, (.getfield 61, 3)), (21, (.iload_n 1, 1)), (22, (.invokevirtual 220, 3)), (25, (.goto 4, 3)), (28, (.iconst (-1), 1)), (29, (.ireturn, 1))] = true := zYQs 0 (by decide +kernel)
theorem dlB_Group_countLike_70 : zdal (zb m_Group_countLike) [(0, (.iconst 0, 1)), (1, (.istore_n 2, 1)), (2, (.iconst 0, 1)), (3, (.istore_n 3, 1)), (4, (.iload_n 3, 1)), (5, (.aload_n 0, 1)), (6, (.getfield 39, 3)), (9, (.if_icmp .ge 20, 3)), (12, (.iload_n 2, 1)), (13, (.iconst 1, 1)), (14, (.aload_n 0, 1)), (15, (.iload_n 1, 1)), (16, (.iload_n 3, 1)), (17, (.invokevirtual 77, 3)), (20, (.ishl, 1)), (21, (.ior, 1)), (22, (.istore_n 2, 1)), (23, (.iinc 3 1, 3)), (26, (.goto (-22), 3)), (29, (.iload_n 2, 1)), (30, (.invokestatic 83, 3)), (33, (.ireturn, 1))] = true := zYQs 0 (by decide +kernel)
theorem dlB_T_peak_71 : zdal (zb m_T_peak) [(0, (.aload_n 0, 1)), (1, (.getfield 28, 3)), (4, (.getfield 85, 3)), (7, (.iload_n 1, 1)), (8, (.invokevirtual 143, 3)), (11, (.ifCond .eq 17, 3)), (14, (.aload_n 0, 1)), (15, (.getfield 28, 3)), (18, (.getfield 85, 3)), (21, (.iload_n 2, 1)), (22, (.invokevirtual 143, 3)), (25, (.ifCond .ne 6, 3)), (28, (.ldc 204, 2)), (30, (.ireturn, 1)), (31, (.aload_n 0, 1)), (32, (.iconst 1, 1)), (33, (.iload_n 1, 1)), (34, (.ishl, 1)), (35, (.iload_n 2, 1)), (36, (.iload_n 3, 1)), (37, (.invokevirtual 223, 3)), (40, (.ireturn, 1))] = true := zYQs 0 (by decide +kernel)
theorem dlB_T_peakPart_72 : zdal (zb m_T_peakPart) [(0, (.iload_n 3, 1)), (1, (.ifCond .eq 11, 3)), (4, (.iload_n 3, 1)), (5, (.iconst 1, 1)), (6, (.if_icmp .eq 6, 3)), (9, (.ldc 204, 2)), (11, (.ireturn, 1)), (12, (.aload_n 0, 1)), (13, (.getfield 28, 3)), (16, (.getfield 61, 3)), (19, (.getfield 65, 3)), (22, (.istore 4, 2)), (24, (.aload_n 0, 1)), (25, (.getfield 28, 3)), (28, (.getfield 169, 3)), (31, (.iload_n 1, 1)), (32, (.iload 4, 2)), (34, (.invokevirtual 317, 3)), (37, (.aload_n 0, 1)), (38, (.getfield 28, 3)), (41, (.getfield 169, 3)), (44, (.bipush 39, 2)), (46, (.iload_n 2, 1)), (47, (.invokevirtual 179, 3))] = true := zYQs 0 (by decide +kernel)
theorem dlB_T_peakPart_73 : zdal (zb m_T_peakPart) [(50, (.l2i, 1)), (51, (.istore 5, 2)), (53, (.iload 4, 2)), (55, (.iload 5, 2)), (57, (.invokestatic 320, 3)), (60, (.invokestatic 325, 3)), (63, (.istore 6, 2)), (65, (.iload 6, 2)), (67, (.ifCond .ne 6, 3)), (70, (.ldc 204, 2)), (72, (.ireturn, 1)), (73, (.iload_n 3, 1)), (74, (.ifCond .ne 11, 3)), (77, (.iload 5, 2)), (79, (.iload 6, 2)), (81, (.idiv, 1)), (82, (.goto 8, 3)), (85, (.iload 4, 2)), (87, (.iload 6, 2)), (89, (.idiv, 1)), (90, (.ireturn, 1))] = true := zYQs 50 (by decide +kernel)
theorem d_T_peakPart_90 : decode (zb m_T_peakPart) 90 = .ok (.ireturn, 1) := zdal_p dlB_T_peakPart_73 (i := 20) rfl
theorem dlB_Sums_putScaled_74 : zdal (zb m_Sums_putScaled) [(0, (.iconst 0, 1)), (1, (.istore_n 3, 1)), (2, (.iload_n 3, 1)), (3, (.aload_n 0, 1)), (4, (.getfield 23, 3)), (7, (.getfield 35, 3)), (10, (.if_icmp .ge 31, 3)), (13, (.aload_n 0, 1)), (14, (.getfield 20, 3)), (17, (.iload_n 3, 1)), (18, (.iload_n 1, 1)), (19, (.iload_n 3, 1)), (20, (.invokestatic 61, 3)), (23, (.ifCond .eq 8, 3)), (26, (.iload_n 2, 1)), (27, (.i2l, 1)), (28, (.goto 4, 3)), (31, (.lconst 0, 1)), (32, (.invokevirtual 31, 3)), (35, (.iinc 3 1, 3)), (38, (.goto (-36), 3)), (41, (.aload_n 0, 1)), (42, (.bipush 39, 2)), (44, (.invokevirtual 58, 3))] = true := zYQs 0 (by decide +kernel)
theorem dlB_Sums_putScaled_75 : zdal (zb m_Sums_putScaled) [(47, (.return_, 1))] = true := zYQs 47 (by decide +kernel)
theorem dlB_T_greatestDivisor_76 : zdal (zb m_T_greatestDivisor) [(0, (.iload_n 0, 1)), (1, (.istore_n 2, 1)), (2, (.iload_n 1, 1)), (3, (.istore_n 3, 1)), (4, (.iconst 0, 1)), (5, (.istore 4, 2)), (7, (.iload 4, 2)), (9, (.bipush 100, 2)), (11, (.if_icmp .ge 23, 3)), (14, (.iload_n 3, 1)), (15, (.ifCond .eq 19, 3)), (18, (.iload_n 2, 1)), (19, (.iload_n 3, 1)), (20, (.irem, 1)), (21, (.istore 5, 2)), (23, (.iload_n 3, 1)), (24, (.istore_n 2, 1)), (25, (.iload 5, 2)), (27, (.istore_n 3, 1)), (28, (.iinc 4 1, 3)), (31, (.goto (-24), 3)), (34, (.iload_n 2, 1)), (35, (.ireturn, 1))] = true := zYQs 0 (by decide +kernel)
theorem dlB_T_local_77 : zdal (zb m_T_local) [(0, (.iload_n 1, 1)), (1, (.invokestatic 183, 3)), (4, (.ifCond .eq 31, 3)), (7, (.aload_n 0, 1)), (8, (.getfield 28, 3)), (11, (.getfield 85, 3)), (14, (.iload_n 2, 1)), (15, (.invokevirtual 143, 3)), (18, (.ifCond .eq 17, 3)), (21, (.aload_n 0, 1)), (22, (.getfield 28, 3)), (25, (.getfield 85, 3)), (28, (.iload_n 3, 1)), (29, (.invokevirtual 143, 3)), (32, (.ifCond .ne 6, 3)), (35, (.ldc 204, 2)), (37, (.ireturn, 1)), (38, (.aload_n 0, 1)), (39, (.aload_n 0, 1)), (40, (.getfield 28, 3)), (43, (.getfield 85, 3)), (46, (.iload_n 2, 1)), (47, (.iload_n 1, 1)), (48, (.invokevirtual 189, 3))] = true := zYQs 0 (by decide +kernel)
theorem dlB_T_local_78 : zdal (zb m_T_local) [(51, (.iload_n 3, 1)), (52, (.iload 4, 2)), (54, (.invokevirtual 223, 3)), (57, (.ireturn, 1))] = true := zYQs 51 (by decide +kernel)
theorem dlB_T_units_79 : zdal (zb m_T_units) [(0, (.aload_n 0, 1)), (1, (.getfield 28, 3)), (4, (.getfield 227, 3)), (7, (.invokevirtual 231, 3)), (10, (.aload_n 0, 1)), (11, (.getfield 28, 3)), (14, (.getfield 227, 3)), (17, (.invokevirtual 236, 3)), (20, (.ireturn, 1))] = true := zYQs 0 (by decide +kernel)
theorem dlB_Units_seek_80 : zdal (zb m_Units_seek) [(0, (.aload_n 0, 1)), (1, (.getfield 27, 3)), (4, (.ifCond .eq 4, 3)), (7, (.return_, 1)), (8, (.aload_n 0, 1)), (9, (.iconst 1, 1)), (10, (.putfield 27, 3)), (13, (.aload_n 0, 1)), (14, (.aload_n 0, 1)), (15, (.getfield 23, 3)), (18, (.getfield 35, 3)), (21, (.putfield 31, 3)), (24, (.iconst 0, 1)), (25, (.istore_n 1, 1)), (26, (.iload_n 1, 1)), (27, (.aload_n 0, 1)), (28, (.getfield 23, 3)), (31, (.getfield 35, 3)), (34, (.if_icmp .ge 20, 3)), (37, (.aload_n 0, 1)), (38, (.getfield 14, 3)), (41, (.iload_n 1, 1)), (42, (.iconst 1, 1)), (43, (.iload_n 1, 1))] = true := zYQs 0 (by decide +kernel)
theorem dlB_Units_seek_81 : zdal (zb m_Units_seek) [(44, (.ishl, 1)), (45, (.invokevirtual 40, 3)), (48, (.iinc 1 1, 3)), (51, (.goto (-25), 3)), (54, (.iconst 0, 1)), (55, (.istore_n 1, 1)), (56, (.iload_n 1, 1)), (57, (.aload_n 0, 1)), (58, (.getfield 23, 3)), (61, (.getfield 35, 3)), (64, (.if_icmp .ge 14, 3)), (67, (.aload_n 0, 1)), (68, (.iload_n 1, 1)), (69, (.invokevirtual 44, 3)), (72, (.iinc 1 1, 3)), (75, (.goto (-19), 3)), (78, (.aload_n 0, 1)), (79, (.invokevirtual 47, 3)), (82, (.return_, 1))] = true := zYQs 44 (by decide +kernel)
theorem dlB_Units_narrowAt_82 : zdal (zb m_Units_narrowAt) [(0, (.aload_n 0, 1)), (1, (.getfield 23, 3)), (4, (.getfield 50, 3)), (7, (.astore_n 2, 1)), (8, (.aload_n 0, 1)), (9, (.getfield 23, 3)), (12, (.getfield 54, 3)), (15, (.iload_n 1, 1)), (16, (.invokevirtual 57, 3)), (19, (.istore_n 3, 1)), (20, (.iconst 0, 1)), (21, (.istore 4, 2)), (23, (.aload_n 2, 1)), (24, (.iload_n 3, 1)), (25, (.invokevirtual 61, 3)), (28, (.istore 5, 2)), (30, (.iconst 0, 1)), (31, (.istore 6, 2)), (33, (.iload 6, 2)), (35, (.aload_n 2, 1)), (36, (.getfield 66, 3)), (39, (.if_icmp .ge 66, 3)), (42, (.iload 5, 2)), (44, (.iload 6, 2))] = true := zYQs 0 (by decide +kernel)
theorem dlB_Units_narrowAt_83 : zdal (zb m_Units_narrowAt) [(46, (.invokestatic 69, 3)), (49, (.ifCond .eq 50, 3)), (52, (.aload_n 2, 1)), (53, (.iload_n 3, 1)), (54, (.iload 6, 2)), (56, (.invokevirtual 73, 3)), (59, (.iload 6, 2)), (61, (.if_icmp .ne 38, 3)), (64, (.iload 4, 2)), (66, (.iconst 1, 1)), (67, (.iload 6, 2)), (69, (.ishl, 1)), (70, (.ior, 1)), (71, (.istore 4, 2)), (73, (.aload_n 0, 1)), (74, (.getfield 20, 3)), (77, (.iload 6, 2)), (79, (.aload_n 0, 1)), (80, (.aload_n 0, 1)), (81, (.getfield 23, 3)), (84, (.iload_n 3, 1)), (85, (.iconst 1, 1)), (86, (.iload 6, 2)), (88, (.ishl, 1))] = true := zYQs 46 (by decide +kernel)
theorem dlB_Units_narrowAt_84 : zdal (zb m_Units_narrowAt) [(89, (.ior, 1)), (90, (.invokevirtual 77, 3)), (93, (.invokevirtual 80, 3)), (96, (.invokevirtual 40, 3)), (99, (.iinc 6 1, 3)), (102, (.goto (-69), 3)), (105, (.iconst 0, 1)), (106, (.istore 6, 2)), (108, (.iload 6, 2)), (110, (.aload_n 2, 1)), (111, (.getfield 66, 3)), (114, (.if_icmp .ge 101, 3)), (117, (.iconst 0, 1)), (118, (.istore 7, 2)), (120, (.iload 7, 2)), (122, (.aload_n 2, 1)), (123, (.getfield 66, 3)), (126, (.if_icmp .ge 83, 3)), (129, (.iload 4, 2)), (131, (.iload 6, 2)), (133, (.invokestatic 69, 3)), (136, (.ifCond .eq 67, 3)), (139, (.iload 4, 2)), (141, (.iload 7, 2))] = true := zYQs 89 (by decide +kernel)
theorem dlB_Units_narrowAt_85 : zdal (zb m_Units_narrowAt) [(143, (.invokestatic 69, 3)), (146, (.ifCond .eq 57, 3)), (149, (.aload_n 2, 1)), (150, (.iload_n 3, 1)), (151, (.aload_n 2, 1)), (152, (.iload 6, 2)), (154, (.iload 7, 2)), (156, (.invokevirtual 83, 3)), (159, (.invokevirtual 73, 3)), (162, (.istore 8, 2)), (164, (.aload_n 0, 1)), (165, (.aload_n 0, 1)), (166, (.iload_n 1, 1)), (167, (.invokevirtual 80, 3)), (170, (.aload_n 0, 1)), (171, (.getfield 20, 3)), (174, (.iload 6, 2)), (176, (.invokevirtual 57, 3)), (179, (.ixor, 1)), (180, (.aload_n 0, 1)), (181, (.getfield 20, 3)), (184, (.iload 7, 2)), (186, (.invokevirtual 57, 3)), (189, (.ixor, 1))] = true := zYQs 143 (by decide +kernel)
theorem dlB_Units_narrowAt_86 : zdal (zb m_Units_narrowAt) [(190, (.aload_n 0, 1)), (191, (.getfield 20, 3)), (194, (.iload 8, 2)), (196, (.invokevirtual 57, 3)), (199, (.ixor, 1)), (200, (.invokevirtual 86, 3)), (203, (.iinc 7 1, 3)), (206, (.goto (-86), 3)), (209, (.iinc 6 1, 3)), (212, (.goto (-104), 3)), (215, (.return_, 1))] = true := zYQs 190 (by decide +kernel)
theorem dlB_Units_bitOf_87 : zdal (zb m_Units_bitOf) [(0, (.iconst 1, 1)), (1, (.aload_n 0, 1)), (2, (.getfield 23, 3)), (5, (.getfield 35, 3)), (8, (.iconst 1, 1)), (9, (.isub, 1)), (10, (.iload_n 1, 1)), (11, (.isub, 1)), (12, (.ishl, 1)), (13, (.ireturn, 1))] = true := zYQs 0 (by decide +kernel)
theorem dlB_Units_narrow_88 : zdal (zb m_Units_narrow) [(0, (.iconst (-1), 1)), (1, (.istore_n 2, 1)), (2, (.iconst 0, 1)), (3, (.istore_n 3, 1)), (4, (.iload_n 3, 1)), (5, (.aload_n 0, 1)), (6, (.getfield 31, 3)), (9, (.if_icmp .ge 65, 3)), (12, (.aload_n 0, 1)), (13, (.getfield 14, 3)), (16, (.iload_n 3, 1)), (17, (.invokevirtual 57, 3)), (20, (.iload_n 1, 1)), (21, (.iand, 1)), (22, (.invokestatic 89, 3)), (25, (.iconst 1, 1)), (26, (.iand, 1)), (27, (.ifCond .ne 6, 3)), (30, (.goto 38, 3)), (33, (.iload_n 2, 1)), (34, (.iconst (-1), 1)), (35, (.if_icmp .ne 8, 3)), (38, (.iload_n 3, 1)), (39, (.istore_n 2, 1))] = true := zYQs 0 (by decide +kernel)
theorem dlB_Units_narrow_89 : zdal (zb m_Units_narrow) [(40, (.goto 28, 3)), (43, (.aload_n 0, 1)), (44, (.getfield 14, 3)), (47, (.iload_n 3, 1)), (48, (.aload_n 0, 1)), (49, (.getfield 14, 3)), (52, (.iload_n 3, 1)), (53, (.invokevirtual 57, 3)), (56, (.aload_n 0, 1)), (57, (.getfield 14, 3)), (60, (.iload_n 2, 1)), (61, (.invokevirtual 57, 3)), (64, (.ixor, 1)), (65, (.invokevirtual 40, 3)), (68, (.iinc 3 1, 3)), (71, (.goto (-67), 3)), (74, (.iload_n 2, 1)), (75, (.iconst (-1), 1)), (76, (.if_icmp .eq 32, 3)), (79, (.aload_n 0, 1)), (80, (.dup, 1)), (81, (.getfield 31, 3)), (84, (.iconst 1, 1)), (85, (.isub, 1))] = true := zYQs 40 (by decide +kernel)
theorem dlB_Units_narrow_90 : zdal (zb m_Units_narrow) [(86, (.putfield 31, 3)), (89, (.aload_n 0, 1)), (90, (.getfield 14, 3)), (93, (.iload_n 2, 1)), (94, (.aload_n 0, 1)), (95, (.getfield 14, 3)), (98, (.aload_n 0, 1)), (99, (.getfield 31, 3)), (102, (.invokevirtual 57, 3)), (105, (.invokevirtual 40, 3)), (108, (.return_, 1))] = true := zYQs 86 (by decide +kernel)
theorem dlB_Units_straighten_91 : zdal (zb m_Units_straighten) [(0, (.iconst 0, 1)), (1, (.istore_n 1, 1)), (2, (.iconst 0, 1)), (3, (.istore_n 2, 1)), (4, (.iload_n 2, 1)), (5, (.aload_n 0, 1)), (6, (.getfield 23, 3)), (9, (.getfield 35, 3)), (12, (.if_icmp .ge 155, 3)), (15, (.iload_n 1, 1)), (16, (.istore_n 3, 1)), (17, (.iload_n 3, 1)), (18, (.aload_n 0, 1)), (19, (.getfield 31, 3)), (22, (.if_icmp .ge 26, 3)), (25, (.aload_n 0, 1)), (26, (.getfield 14, 3)), (29, (.iload_n 3, 1)), (30, (.invokevirtual 57, 3)), (33, (.aload_n 0, 1)), (34, (.iload_n 2, 1)), (35, (.invokevirtual 80, 3)), (38, (.iand, 1)), (39, (.ifCond .ne 9, 3))] = true := zYQs 0 (by decide +kernel)
theorem dlB_Units_straighten_92 : zdal (zb m_Units_straighten) [(42, (.iinc 3 1, 3)), (45, (.goto (-28), 3)), (48, (.iload_n 3, 1)), (49, (.aload_n 0, 1)), (50, (.getfield 31, 3)), (53, (.if_icmp .lt 6, 3)), (56, (.goto 105, 3)), (59, (.aload_n 0, 1)), (60, (.getfield 14, 3)), (63, (.iload_n 3, 1)), (64, (.invokevirtual 57, 3)), (67, (.istore 4, 2)), (69, (.aload_n 0, 1)), (70, (.getfield 14, 3)), (73, (.iload_n 3, 1)), (74, (.aload_n 0, 1)), (75, (.getfield 14, 3)), (78, (.iload_n 1, 1)), (79, (.invokevirtual 57, 3)), (82, (.invokevirtual 40, 3)), (85, (.aload_n 0, 1)), (86, (.getfield 14, 3)), (89, (.iload_n 1, 1)), (90, (.iload 4, 2))] = true := zYQs 42 (by decide +kernel)
theorem dlB_Units_straighten_93 : zdal (zb m_Units_straighten) [(92, (.invokevirtual 40, 3)), (95, (.iconst 0, 1)), (96, (.istore 5, 2)), (98, (.iload 5, 2)), (100, (.aload_n 0, 1)), (101, (.getfield 31, 3)), (104, (.if_icmp .ge 54, 3)), (107, (.iload 5, 2)), (109, (.iload_n 1, 1)), (110, (.if_icmp .eq 42, 3)), (113, (.aload_n 0, 1)), (114, (.getfield 14, 3)), (117, (.iload 5, 2)), (119, (.invokevirtual 57, 3)), (122, (.aload_n 0, 1)), (123, (.iload_n 2, 1)), (124, (.invokevirtual 80, 3)), (127, (.iand, 1)), (128, (.ifCond .eq 24, 3)), (131, (.aload_n 0, 1)), (132, (.getfield 14, 3)), (135, (.iload 5, 2)), (137, (.aload_n 0, 1)), (138, (.getfield 14, 3))] = true := zYQs 92 (by decide +kernel)
theorem dlB_Units_straighten_94 : zdal (zb m_Units_straighten) [(141, (.iload 5, 2)), (143, (.invokevirtual 57, 3)), (146, (.iload 4, 2)), (148, (.ixor, 1)), (149, (.invokevirtual 40, 3)), (152, (.iinc 5 1, 3)), (155, (.goto (-57), 3)), (158, (.iinc 1 1, 3)), (161, (.iinc 2 1, 3)), (164, (.goto (-160), 3)), (167, (.return_, 1))] = true := zYQs 141 (by decide +kernel)
theorem d_Units_straighten_152 : decode (zb m_Units_straighten) 152 = .ok (.iinc 5 1, 3) := zdal_p dlB_Units_straighten_94 (i := 5) rfl
theorem d_Units_straighten_155 : decode (zb m_Units_straighten) 155 = .ok (.goto (-57), 3) := zdal_p dlB_Units_straighten_94 (i := 6) rfl
theorem dlB_Units_total_95 : zdal (zb m_Units_total) [(0, (.iconst 1, 1)), (1, (.aload_n 0, 1)), (2, (.getfield 31, 3)), (5, (.ishl, 1)), (6, (.ireturn, 1))] = true := zYQs 0 (by decide +kernel)
theorem dlB_T_unit_96 : zdal (zb m_T_unit) [(0, (.aload_n 0, 1)), (1, (.getfield 28, 3)), (4, (.getfield 227, 3)), (7, (.invokevirtual 231, 3)), (10, (.iload_n 1, 1)), (11, (.ifCond .lt 31, 3)), (14, (.iload_n 1, 1)), (15, (.aload_n 0, 1)), (16, (.getfield 28, 3)), (19, (.getfield 227, 3)), (22, (.invokevirtual 236, 3)), (25, (.if_icmp .ge 17, 3)), (28, (.aload_n 0, 1)), (29, (.getfield 28, 3)), (32, (.getfield 85, 3)), (35, (.iload_n 2, 1)), (36, (.invokevirtual 143, 3)), (39, (.ifCond .ne 6, 3)), (42, (.ldc 204, 2)), (44, (.ireturn, 1)), (45, (.aload_n 0, 1)), (46, (.getfield 28, 3)), (49, (.getfield 169, 3)), (52, (.aload_n 0, 1))] = true := zYQs 0 (by decide +kernel)
theorem dlB_T_unit_97 : zdal (zb m_T_unit) [(53, (.getfield 28, 3)), (56, (.getfield 227, 3)), (59, (.iload_n 1, 1)), (60, (.invokevirtual 239, 3)), (63, (.invokevirtual 242, 3)), (66, (.aload_n 0, 1)), (67, (.getfield 28, 3)), (70, (.getfield 169, 3)), (73, (.bipush 39, 2)), (75, (.iload_n 2, 1)), (76, (.invokevirtual 179, 3)), (79, (.l2i, 1)), (80, (.ireturn, 1))] = true := zYQs 53 (by decide +kernel)
theorem dlB_Units_signsOf_98 : zdal (zb m_Units_signsOf) [(0, (.iconst 0, 1)), (1, (.istore_n 2, 1)), (2, (.iconst 0, 1)), (3, (.istore_n 3, 1)), (4, (.iload_n 3, 1)), (5, (.aload_n 0, 1)), (6, (.getfield 31, 3)), (9, (.if_icmp .ge 35, 3)), (12, (.iload_n 1, 1)), (13, (.aload_n 0, 1)), (14, (.getfield 31, 3)), (17, (.iconst 1, 1)), (18, (.isub, 1)), (19, (.iload_n 3, 1)), (20, (.isub, 1)), (21, (.invokestatic 69, 3)), (24, (.ifCond .eq 14, 3)), (27, (.iload_n 2, 1)), (28, (.aload_n 0, 1)), (29, (.getfield 14, 3)), (32, (.iload_n 3, 1)), (33, (.invokevirtual 57, 3)), (36, (.ixor, 1)), (37, (.istore_n 2, 1))] = true := zYQs 0 (by decide +kernel)
theorem dlB_Units_signsOf_99 : zdal (zb m_Units_signsOf) [(38, (.iinc 3 1, 3)), (41, (.goto (-37), 3)), (44, (.iconst 0, 1)), (45, (.istore_n 3, 1)), (46, (.iconst 0, 1)), (47, (.istore 4, 2)), (49, (.iload 4, 2)), (51, (.aload_n 0, 1)), (52, (.getfield 23, 3)), (55, (.getfield 35, 3)), (58, (.if_icmp .ge 27, 3)), (61, (.iload_n 2, 1)), (62, (.aload_n 0, 1)), (63, (.iload 4, 2)), (65, (.invokevirtual 80, 3)), (68, (.iand, 1)), (69, (.ifCond .eq 10, 3)), (72, (.iload_n 3, 1)), (73, (.iconst 1, 1)), (74, (.iload 4, 2)), (76, (.ishl, 1)), (77, (.ior, 1)), (78, (.istore_n 3, 1)), (79, (.iinc 4 1, 3))] = true := zYQs 38 (by decide +kernel)
theorem dlB_Units_signsOf_100 : zdal (zb m_Units_signsOf) [(82, (.goto (-33), 3)), (85, (.iload_n 3, 1)), (86, (.ireturn, 1))] = true := zYQs 82 (by decide +kernel)
theorem dlB_Sums_putSigns_101 : zdal (zb m_Sums_putSigns) [(0, (.iconst 0, 1)), (1, (.istore_n 2, 1)), (2, (.iload_n 2, 1)), (3, (.aload_n 0, 1)), (4, (.getfield 23, 3)), (7, (.getfield 35, 3)), (10, (.if_icmp .ge 32, 3)), (13, (.aload_n 0, 1)), (14, (.getfield 20, 3)), (17, (.iload_n 2, 1)), (18, (.iload_n 1, 1)), (19, (.iload_n 2, 1)), (20, (.invokestatic 61, 3)), (23, (.ifCond .eq 9, 3)), (26, (.ldc2_w 65, 3)), (29, (.goto 4, 3)), (32, (.lconst 1, 1)), (33, (.invokevirtual 31, 3)), (36, (.iinc 2 1, 3)), (39, (.goto (-37), 3)), (42, (.aload_n 0, 1)), (43, (.bipush 39, 2)), (45, (.invokevirtual 58, 3)), (48, (.return_, 1))] = true := zYQs 0 (by decide +kernel)
theorem dlB_T_named_102 : zdal (zb m_T_named) [(0, (.aload_n 0, 1)), (1, (.getfield 28, 3)), (4, (.iload_n 1, 1)), (5, (.invokevirtual 245, 3)), (8, (.ifCond .eq 34, 3)), (11, (.aload_n 0, 1)), (12, (.getfield 28, 3)), (15, (.getfield 85, 3)), (18, (.iload_n 2, 1)), (19, (.invokevirtual 143, 3)), (22, (.ifCond .eq 20, 3)), (25, (.aload_n 0, 1)), (26, (.getfield 28, 3)), (29, (.getfield 169, 3)), (32, (.iconst 1, 1)), (33, (.iload_n 1, 1)), (34, (.iadd, 1)), (35, (.iload_n 2, 1)), (36, (.invokevirtual 179, 3)), (39, (.goto 6, 3)), (42, (.ldc2_w 248, 3)), (45, (.lreturn, 1))] = true := zYQs 0 (by decide +kernel)
theorem dlB_Troupe_hasName_103 : zdal (zb m_Troupe_hasName) [(0, (.iload_n 1, 1)), (1, (.ifCond .lt 15, 3)), (4, (.iload_n 1, 1)), (5, (.aload_n 0, 1)), (6, (.getfield 64, 3)), (9, (.if_icmp .ge 7, 3)), (12, (.iconst 1, 1)), (13, (.goto 4, 3)), (16, (.iconst 0, 1)), (17, (.ireturn, 1))] = true := zYQs 0 (by decide +kernel)
theorem dlB_T_has_104 : zdal (zb m_T_has) [(0, (.aload_n 0, 1)), (1, (.getfield 28, 3)), (4, (.getfield 85, 3)), (7, (.iload_n 1, 1)), (8, (.invokevirtual 143, 3)), (11, (.ifCond .eq 18, 3)), (14, (.aload_n 0, 1)), (15, (.getfield 28, 3)), (18, (.getfield 169, 3)), (21, (.iconst 0, 1)), (22, (.iload_n 1, 1)), (23, (.invokevirtual 179, 3)), (26, (.goto 6, 3)), (29, (.ldc2_w 248, 3)), (32, (.lreturn, 1))] = true := zYQs 0 (by decide +kernel)
theorem dlB_T_marked_105 : zdal (zb m_T_marked) [(0, (.aload_n 0, 1)), (1, (.getfield 28, 3)), (4, (.getfield 85, 3)), (7, (.iload_n 1, 1)), (8, (.invokevirtual 143, 3)), (11, (.ifCond .eq 18, 3)), (14, (.aload_n 0, 1)), (15, (.getfield 28, 3)), (18, (.getfield 169, 3)), (21, (.iconst 0, 1)), (22, (.iload_n 1, 1)), (23, (.invokevirtual 250, 3)), (26, (.goto 6, 3)), (29, (.ldc2_w 248, 3)), (32, (.lreturn, 1))] = true := zYQs 0 (by decide +kernel)
theorem dlB_T_character_106 : zdal (zb m_T_character) [(0, (.aload_n 0, 1)), (1, (.getfield 28, 3)), (4, (.getfield 61, 3)), (7, (.iload_n 1, 1)), (8, (.invokevirtual 108, 3)), (11, (.ifCond .ne 7, 3)), (14, (.ldc2_w 248, 3)), (17, (.lreturn, 1)), (18, (.aload_n 0, 1)), (19, (.getfield 28, 3)), (22, (.getfield 169, 3)), (25, (.iconst 0, 1)), (26, (.aload_n 0, 1)), (27, (.getfield 28, 3)), (30, (.getfield 85, 3)), (33, (.iconst 1, 1)), (34, (.iload_n 1, 1)), (35, (.ishl, 1)), (36, (.invokevirtual 140, 3)), (39, (.invokevirtual 250, 3)), (42, (.lreturn, 1))] = true := zYQs 0 (by decide +kernel)
theorem dlB_T_parts_107 : zdal (zb m_T_parts) [(0, (.aload_n 0, 1)), (1, (.getfield 28, 3)), (4, (.getfield 169, 3)), (7, (.iconst 0, 1)), (8, (.invokevirtual 253, 3)), (11, (.ireturn, 1))] = true := zYQs 0 (by decide +kernel)
theorem dlB_Sums_partsOf_108 : zdal (zb m_Sums_partsOf) [(0, (.iconst 0, 1)), (1, (.istore_n 2, 1)), (2, (.iconst 0, 1)), (3, (.istore_n 3, 1)), (4, (.iload_n 3, 1)), (5, (.aload_n 0, 1)), (6, (.getfield 23, 3)), (9, (.getfield 35, 3)), (12, (.if_icmp .ge 23, 3)), (15, (.aload_n 0, 1)), (16, (.iload_n 1, 1)), (17, (.iload_n 3, 1)), (18, (.invokevirtual 67, 3)), (21, (.lconst 0, 1)), (22, (.lcmp, 1)), (23, (.ifCond .eq 6, 3)), (26, (.iinc 2 1, 3)), (29, (.iinc 3 1, 3)), (32, (.goto (-28), 3)), (35, (.iload_n 2, 1)), (36, (.ireturn, 1))] = true := zYQs 0 (by decide +kernel)
theorem dlB_T_congruence_109 : zdal (zb m_T_congruence) [(0, (.aload_n 0, 1)), (1, (.getfield 28, 3)), (4, (.getfield 85, 3)), (7, (.iload_n 1, 1)), (8, (.invokevirtual 143, 3)), (11, (.ifCond .ne 7, 3)), (14, (.ldc2_w 248, 3)), (17, (.lreturn, 1)), (18, (.aload_n 0, 1)), (19, (.getfield 28, 3)), (22, (.getfield 169, 3)), (25, (.iconst 0, 1)), (26, (.invokevirtual 256, 3)), (29, (.aload_n 0, 1)), (30, (.getfield 28, 3)), (33, (.getfield 85, 3)), (36, (.iload_n 1, 1)), (37, (.invokevirtual 259, 3)), (40, (.istore_n 2, 1)), (41, (.aload_n 0, 1)), (42, (.getfield 28, 3)), (45, (.getfield 85, 3)), (48, (.iload_n 1, 1)), (49, (.aload_n 0, 1))] = true := zYQs 0 (by decide +kernel)
theorem dlB_T_congruence_110 : zdal (zb m_T_congruence) [(50, (.getfield 28, 3)), (53, (.getfield 169, 3)), (56, (.getfield 262, 3)), (59, (.invokevirtual 266, 3)), (62, (.lstore_n 3, 1)), (63, (.iload_n 2, 1)), (64, (.ifCond .le 10, 3)), (67, (.lload_n 3, 1)), (68, (.iload_n 2, 1)), (69, (.i2l, 1)), (70, (.ldiv, 1)), (71, (.goto 6, 3)), (74, (.ldc2_w 248, 3)), (77, (.lreturn, 1))] = true := zYQs 50 (by decide +kernel)
theorem dlB_Sums_putMarks_111 : zdal (zb m_Sums_putMarks) [(0, (.iconst 0, 1)), (1, (.istore_n 2, 1)), (2, (.iload_n 2, 1)), (3, (.aload_n 0, 1)), (4, (.getfield 23, 3)), (7, (.getfield 35, 3)), (10, (.if_icmp .ge 23, 3)), (13, (.aload_n 0, 1)), (14, (.getfield 20, 3)), (17, (.iload_n 2, 1)), (18, (.aload_n 0, 1)), (19, (.iload_n 1, 1)), (20, (.iload_n 2, 1)), (21, (.invokevirtual 50, 3)), (24, (.invokevirtual 31, 3)), (27, (.iinc 2 1, 3)), (30, (.goto (-28), 3)), (33, (.return_, 1))] = true := zYQs 0 (by decide +kernel)
theorem dlB_Sorts_normSize_112 : zdal (zb m_Sorts_normSize) [(0, (.aload_n 0, 1)), (1, (.getfield 32, 3)), (4, (.aload_n 0, 1)), (5, (.getfield 26, 3)), (8, (.iload_n 1, 1)), (9, (.invokevirtual 49, 3)), (12, (.invokevirtual 102, 3)), (15, (.invokestatic 78, 3)), (18, (.ireturn, 1))] = true := zYQs 0 (by decide +kernel)
theorem dlB_Sorts_sumOverNorm_113 : zdal (zb m_Sorts_sumOverNorm) [(0, (.aload_n 0, 1)), (1, (.getfield 26, 3)), (4, (.iload_n 1, 1)), (5, (.invokevirtual 49, 3)), (8, (.istore_n 3, 1)), (9, (.aload_n 0, 1)), (10, (.getfield 32, 3)), (13, (.iload_n 3, 1)), (14, (.invokevirtual 102, 3)), (17, (.istore 4, 2)), (19, (.lconst 0, 1)), (20, (.lstore 5, 2)), (22, (.iconst 0, 1)), (23, (.istore 7, 2)), (25, (.iload 7, 2)), (27, (.aload_n 0, 1)), (28, (.getfield 32, 3)), (31, (.getfield 44, 3)), (34, (.if_icmp .ge 38, 3)), (37, (.iload 4, 2)), (39, (.iload 7, 2)), (41, (.invokestatic 53, 3)), (44, (.ifCond .eq 22, 3)), (47, (.lload 5, 2))] = true := zYQs 0 (by decide +kernel)
theorem dlB_Sorts_sumOverNorm_114 : zdal (zb m_Sorts_sumOverNorm) [(49, (.aload_n 2, 1)), (50, (.aload_n 0, 1)), (51, (.iload_n 3, 1)), (52, (.iconst 1, 1)), (53, (.iload 7, 2)), (55, (.ishl, 1)), (56, (.ior, 1)), (57, (.invokevirtual 112, 3)), (60, (.invokevirtual 115, 3)), (63, (.ladd, 1)), (64, (.lstore 5, 2)), (66, (.iinc 7 1, 3)), (69, (.goto (-44), 3)), (72, (.lload 5, 2)), (74, (.lreturn, 1))] = true := zYQs 49 (by decide +kernel)
theorem dlB_T_is_115 : zdal (zb m_T_is) [(0, (.aload_n 0, 1)), (1, (.getfield 28, 3)), (4, (.getfield 169, 3)), (7, (.astore_n 2, 1)), (8, (.aload_n 2, 1)), (9, (.iconst 0, 1)), (10, (.invokevirtual 256, 3)), (13, (.iload_n 1, 1)), (14, (.tableswitch 87 0 3 #[30, 44, 59, 74], 30)), (44, (.aload_n 2, 1)), (45, (.iconst 0, 1)), (46, (.invokevirtual 270, 3)), (49, (.ifCond .eq 7, 3)), (52, (.iconst 1, 1)), (53, (.goto 4, 3)), (56, (.iconst 0, 1)), (57, (.ireturn, 1)), (58, (.aload_n 2, 1)), (59, (.iconst 0, 1)), (60, (.iconst 1, 1)), (61, (.invokevirtual 273, 3)), (64, (.ifCond .eq 7, 3)), (67, (.iconst 1, 1)), (68, (.goto 4, 3))] = true := zYQs 0 (by decide +kernel)
theorem d_T_is_14 : decode (zb m_T_is) 14 = .ok (.tableswitch 87 0 3 #[30, 44, 59, 74], 30) := zdal_p dlB_T_is_115 (i := 8) rfl
theorem dlB_T_is_116 : zdal (zb m_T_is) [(71, (.iconst 0, 1)), (72, (.ireturn, 1)), (73, (.aload_n 2, 1)), (74, (.iconst (-1), 1)), (75, (.iconst 1, 1)), (76, (.invokevirtual 273, 3)), (79, (.ifCond .eq 7, 3)), (82, (.iconst 1, 1)), (83, (.goto 4, 3)), (86, (.iconst 0, 1)), (87, (.ireturn, 1)), (88, (.aload_n 2, 1)), (89, (.invokevirtual 277, 3)), (92, (.ifCond .eq 7, 3)), (95, (.iconst 1, 1)), (96, (.goto 4, 3)), (99, (.iconst 0, 1)), (100, (.ireturn, 1)), (101, (.iconst (-1), 1)), (102, (.ireturn, 1))] = true := zYQs 71 (by decide +kernel)
theorem dlB_Sums_hasNoneBelow_117 : zdal (zb m_Sums_hasNoneBelow) [(0, (.iconst 0, 1)), (1, (.istore_n 2, 1)), (2, (.iload_n 2, 1)), (3, (.aload_n 0, 1)), (4, (.getfield 23, 3)), (7, (.getfield 35, 3)), (10, (.if_icmp .ge 22, 3)), (13, (.aload_n 0, 1)), (14, (.iload_n 1, 1)), (15, (.iload_n 2, 1)), (16, (.invokevirtual 67, 3)), (19, (.lconst 0, 1)), (20, (.lcmp, 1)), (21, (.ifCond .ge 5, 3)), (24, (.iconst 0, 1)), (25, (.ireturn, 1)), (26, (.iinc 2 1, 3)), (29, (.goto (-27), 3)), (32, (.iconst 1, 1)), (33, (.ireturn, 1))] = true := zYQs 0 (by decide +kernel)
theorem dlB_Sums_marksAre_118 : zdal (zb m_Sums_marksAre) [(0, (.iconst 0, 1)), (1, (.istore_n 3, 1)), (2, (.iload_n 3, 1)), (3, (.aload_n 0, 1)), (4, (.getfield 23, 3)), (7, (.getfield 35, 3)), (10, (.if_icmp .ge 39, 3)), (13, (.aload_n 0, 1)), (14, (.getfield 20, 3)), (17, (.iload_n 3, 1)), (18, (.invokevirtual 27, 3)), (21, (.iload_n 1, 1)), (22, (.i2l, 1)), (23, (.lcmp, 1)), (24, (.ifCond .eq 19, 3)), (27, (.aload_n 0, 1)), (28, (.getfield 20, 3)), (31, (.iload_n 3, 1)), (32, (.invokevirtual 27, 3)), (35, (.iload_n 2, 1)), (36, (.i2l, 1)), (37, (.lcmp, 1)), (38, (.ifCond .eq 5, 3)), (41, (.iconst 0, 1))] = true := zYQs 0 (by decide +kernel)
theorem dlB_Sums_marksAre_119 : zdal (zb m_Sums_marksAre) [(42, (.ireturn, 1)), (43, (.iinc 3 1, 3)), (46, (.goto (-44), 3)), (49, (.iconst 1, 1)), (50, (.ireturn, 1))] = true := zYQs 42 (by decide +kernel)
theorem dlB_Sums_hasMarkNought_120 : zdal (zb m_Sums_hasMarkNought) [(0, (.iconst 0, 1)), (1, (.istore_n 1, 1)), (2, (.iload_n 1, 1)), (3, (.aload_n 0, 1)), (4, (.getfield 23, 3)), (7, (.getfield 35, 3)), (10, (.if_icmp .ge 24, 3)), (13, (.aload_n 0, 1)), (14, (.getfield 20, 3)), (17, (.iload_n 1, 1)), (18, (.invokevirtual 27, 3)), (21, (.lconst 0, 1)), (22, (.lcmp, 1)), (23, (.ifCond .ne 5, 3)), (26, (.iconst 1, 1)), (27, (.ireturn, 1)), (28, (.iinc 1 1, 3)), (31, (.goto (-29), 3)), (34, (.iconst 0, 1)), (35, (.ireturn, 1))] = true := zYQs 0 (by decide +kernel)
theorem dlB_T_makes_121 : zdal (zb m_T_makes) [(0, (.aload_n 0, 1)), (1, (.getfield 21, 3)), (4, (.invokevirtual 49, 3)), (7, (.aload_n 0, 1)), (8, (.getfield 21, 3)), (11, (.aload_n 0, 1)), (12, (.getfield 28, 3)), (15, (.invokevirtual 281, 3)), (18, (.istore_n 1, 1)), (19, (.aload_n 0, 1)), (20, (.getfield 10, 3)), (23, (.iconst 0, 1)), (24, (.putfield 42, 3)), (27, (.iload_n 1, 1)), (28, (.ifCond .ne 5, 3)), (31, (.iconst (-1), 1)), (32, (.ireturn, 1)), (33, (.aload_n 0, 1)), (34, (.getfield 28, 3)), (37, (.bipush 21, 2)), (39, (.invokevirtual 284, 3)), (42, (.aload_n 0, 1)), (43, (.getfield 28, 3)), (46, (.getfield 169, 3))] = true := zYQs 0 (by decide +kernel)
theorem dlB_T_makes_122 : zdal (zb m_T_makes) [(49, (.iconst 0, 1)), (50, (.invokevirtual 253, 3)), (53, (.ireturn, 1))] = true := zYQs 49 (by decide +kernel)
theorem dlB_Reader_readWhole_123 : zdal (zb m_Reader_readWhole) [(0, (.aload_n 0, 1)), (1, (.aload_n 1, 1)), (2, (.invokevirtual 107, 3)), (5, (.ifCond .ne 5, 3)), (8, (.iconst 0, 1)), (9, (.ireturn, 1)), (10, (.aload_n 0, 1)), (11, (.getfield 15, 3)), (14, (.getfield 27, 3)), (17, (.ifCond .eq 9, 3)), (20, (.aload_n 0, 1)), (21, (.iconst 2, 1)), (22, (.invokevirtual 41, 3)), (25, (.ireturn, 1)), (26, (.aload_n 1, 1)), (27, (.getfield 111, 3)), (30, (.getfield 115, 3)), (33, (.ifCond .eq 13, 3)), (36, (.aload_n 0, 1)), (37, (.bipush 6, 2)), (39, (.iconst 0, 1)), (40, (.invokevirtual 33, 3)), (43, (.ifCond .eq 7, 3)), (46, (.iconst 1, 1))] = true := zYQs 0 (by decide +kernel)
theorem dlB_Reader_readWhole_124 : zdal (zb m_Reader_readWhole) [(47, (.goto 4, 3)), (50, (.iconst 0, 1)), (51, (.ireturn, 1))] = true := zYQs 47 (by decide +kernel)
theorem dlB_Troupe_become_125 : zdal (zb m_Troupe_become) [(0, (.aload_n 0, 1)), (1, (.getfield 32, 3)), (4, (.iconst 0, 1)), (5, (.bipush 9, 2)), (7, (.aload_n 0, 1)), (8, (.getfield 71, 3)), (11, (.iadd, 1)), (12, (.invokevirtual 93, 3)), (15, (.aload_n 0, 1)), (16, (.aload_n 0, 1)), (17, (.getfield 71, 3)), (20, (.iconst 1, 1)), (21, (.iadd, 1)), (22, (.bipush 12, 2)), (24, (.irem, 1)), (25, (.putfield 71, 3)), (28, (.aload_n 0, 1)), (29, (.aload_n 0, 1)), (30, (.getfield 68, 3)), (33, (.iconst 1, 1)), (34, (.iadd, 1)), (35, (.bipush 12, 2)), (37, (.invokestatic 96, 3)), (40, (.putfield 68, 3))] = true := zYQs 0 (by decide +kernel)
theorem dlB_Troupe_become_126 : zdal (zb m_Troupe_become) [(43, (.aload_n 0, 1)), (44, (.getfield 32, 3)), (47, (.iload_n 1, 1)), (48, (.iconst 0, 1)), (49, (.invokevirtual 93, 3)), (52, (.return_, 1))] = true := zYQs 43 (by decide +kernel)
theorem dlB_T_take_127 : zdal (zb m_T_take) [(0, (.iload_n 2, 1)), (1, (.ifCond .lt 13, 3)), (4, (.iload_n 2, 1)), (5, (.bipush 6, 2)), (7, (.if_icmp .gt 7, 3)), (10, (.iconst 1, 1)), (11, (.goto 4, 3)), (14, (.iconst 0, 1)), (15, (.istore_n 3, 1)), (16, (.iload_n 1, 1)), (17, (.ifCond .eq 19, 3)), (20, (.iload_n 3, 1)), (21, (.ifCond .eq 13, 3)), (24, (.iload_n 1, 1)), (25, (.iconst 1, 1)), (26, (.if_icmp .eq 10, 3)), (29, (.iload_n 1, 1)), (30, (.iconst 2, 1)), (31, (.if_icmp .eq 5, 3)), (34, (.iconst (-1), 1)), (35, (.ireturn, 1)), (36, (.iconst 0, 1)), (37, (.istore 4, 2)), (39, (.iload 4, 2))] = true := zYQs 0 (by decide +kernel)
theorem d_T_take_36 : decode (zb m_T_take) 36 = .ok (.iconst 0, 1) := zdal_p dlB_T_take_127 (i := 21) rfl
theorem d_T_take_37 : decode (zb m_T_take) 37 = .ok (.istore 4, 2) := zdal_p dlB_T_take_127 (i := 22) rfl
theorem d_T_take_39 : decode (zb m_T_take) 39 = .ok (.iload 4, 2) := zdal_p dlB_T_take_127 (i := 23) rfl
theorem dlB_T_take_128 : zdal (zb m_T_take) [(41, (.aload_n 0, 1)), (42, (.getfield 28, 3)), (45, (.getfield 85, 3)), (48, (.getfield 94, 3)), (51, (.if_icmp .ge 52, 3)), (54, (.aload_n 0, 1)), (55, (.getfield 28, 3)), (58, (.getfield 169, 3)), (61, (.getfield 262, 3)), (64, (.iload 4, 2)), (66, (.aload_n 0, 1)), (67, (.getfield 28, 3)), (70, (.getfield 61, 3)), (73, (.iload_n 1, 1)), (74, (.iload_n 2, 1)), (75, (.aload_n 0, 1)), (76, (.getfield 28, 3)), (79, (.getfield 85, 3)), (82, (.getfield 146, 3)), (85, (.iload 4, 2)), (87, (.invokevirtual 118, 3)), (90, (.invokevirtual 287, 3)), (93, (.i2l, 1)), (94, (.invokevirtual 290, 3))] = true := zYQs 41 (by decide +kernel)
theorem d_T_take_41 : decode (zb m_T_take) 41 = .ok (.aload_n 0, 1) := zdal_p dlB_T_take_128 (i := 0) rfl
theorem d_T_take_42 : decode (zb m_T_take) 42 = .ok (.getfield 28, 3) := zdal_p dlB_T_take_128 (i := 1) rfl
theorem d_T_take_45 : decode (zb m_T_take) 45 = .ok (.getfield 85, 3) := zdal_p dlB_T_take_128 (i := 2) rfl
theorem d_T_take_48 : decode (zb m_T_take) 48 = .ok (.getfield 94, 3) := zdal_p dlB_T_take_128 (i := 3) rfl
theorem d_T_take_51 : decode (zb m_T_take) 51 = .ok (.if_icmp .ge 52, 3) := zdal_p dlB_T_take_128 (i := 4) rfl
theorem d_T_take_54 : decode (zb m_T_take) 54 = .ok (.aload_n 0, 1) := zdal_p dlB_T_take_128 (i := 5) rfl
theorem d_T_take_55 : decode (zb m_T_take) 55 = .ok (.getfield 28, 3) := zdal_p dlB_T_take_128 (i := 6) rfl
theorem d_T_take_58 : decode (zb m_T_take) 58 = .ok (.getfield 169, 3) := zdal_p dlB_T_take_128 (i := 7) rfl
theorem d_T_take_61 : decode (zb m_T_take) 61 = .ok (.getfield 262, 3) := zdal_p dlB_T_take_128 (i := 8) rfl
theorem d_T_take_64 : decode (zb m_T_take) 64 = .ok (.iload 4, 2) := zdal_p dlB_T_take_128 (i := 9) rfl
theorem d_T_take_66 : decode (zb m_T_take) 66 = .ok (.aload_n 0, 1) := zdal_p dlB_T_take_128 (i := 10) rfl
theorem d_T_take_67 : decode (zb m_T_take) 67 = .ok (.getfield 28, 3) := zdal_p dlB_T_take_128 (i := 11) rfl
theorem d_T_take_70 : decode (zb m_T_take) 70 = .ok (.getfield 61, 3) := zdal_p dlB_T_take_128 (i := 12) rfl
theorem d_T_take_73 : decode (zb m_T_take) 73 = .ok (.iload_n 1, 1) := zdal_p dlB_T_take_128 (i := 13) rfl
theorem d_T_take_74 : decode (zb m_T_take) 74 = .ok (.iload_n 2, 1) := zdal_p dlB_T_take_128 (i := 14) rfl
theorem d_T_take_75 : decode (zb m_T_take) 75 = .ok (.aload_n 0, 1) := zdal_p dlB_T_take_128 (i := 15) rfl
theorem d_T_take_76 : decode (zb m_T_take) 76 = .ok (.getfield 28, 3) := zdal_p dlB_T_take_128 (i := 16) rfl
theorem d_T_take_79 : decode (zb m_T_take) 79 = .ok (.getfield 85, 3) := zdal_p dlB_T_take_128 (i := 17) rfl
theorem d_T_take_82 : decode (zb m_T_take) 82 = .ok (.getfield 146, 3) := zdal_p dlB_T_take_128 (i := 18) rfl
theorem d_T_take_85 : decode (zb m_T_take) 85 = .ok (.iload 4, 2) := zdal_p dlB_T_take_128 (i := 19) rfl
theorem d_T_take_87 : decode (zb m_T_take) 87 = .ok (.invokevirtual 118, 3) := zdal_p dlB_T_take_128 (i := 20) rfl
theorem d_T_take_90 : decode (zb m_T_take) 90 = .ok (.invokevirtual 287, 3) := zdal_p dlB_T_take_128 (i := 21) rfl
theorem d_T_take_93 : decode (zb m_T_take) 93 = .ok (.i2l, 1) := zdal_p dlB_T_take_128 (i := 22) rfl
theorem d_T_take_94 : decode (zb m_T_take) 94 = .ok (.invokevirtual 290, 3) := zdal_p dlB_T_take_128 (i := 23) rfl
theorem dlB_T_take_129 : zdal (zb m_T_take) [(97, (.iinc 4 1, 3)), (100, (.goto (-61), 3)), (103, (.aload_n 0, 1)), (104, (.getfield 28, 3)), (107, (.getfield 169, 3)), (110, (.bipush 39, 2)), (112, (.invokevirtual 296, 3)), (115, (.aload_n 0, 1)), (116, (.getfield 28, 3)), (119, (.bipush 39, 2)), (121, (.invokevirtual 284, 3)), (124, (.aload_n 0, 1)), (125, (.getfield 28, 3)), (128, (.getfield 169, 3)), (131, (.iconst 0, 1)), (132, (.iconst 0, 1)), (133, (.invokevirtual 250, 3)), (136, (.l2i, 1)), (137, (.ireturn, 1))] = true := zYQs 97 (by decide +kernel)
theorem d_T_take_97 : decode (zb m_T_take) 97 = .ok (.iinc 4 1, 3) := zdal_p dlB_T_take_129 (i := 0) rfl
theorem d_T_take_100 : decode (zb m_T_take) 100 = .ok (.goto (-61), 3) := zdal_p dlB_T_take_129 (i := 1) rfl
theorem d_T_take_103 : decode (zb m_T_take) 103 = .ok (.aload_n 0, 1) := zdal_p dlB_T_take_129 (i := 2) rfl
theorem d_T_take_104 : decode (zb m_T_take) 104 = .ok (.getfield 28, 3) := zdal_p dlB_T_take_129 (i := 3) rfl
theorem d_T_take_107 : decode (zb m_T_take) 107 = .ok (.getfield 169, 3) := zdal_p dlB_T_take_129 (i := 4) rfl
theorem d_T_take_110 : decode (zb m_T_take) 110 = .ok (.bipush 39, 2) := zdal_p dlB_T_take_129 (i := 5) rfl
theorem d_T_take_112 : decode (zb m_T_take) 112 = .ok (.invokevirtual 296, 3) := zdal_p dlB_T_take_129 (i := 6) rfl
theorem d_T_take_115 : decode (zb m_T_take) 115 = .ok (.aload_n 0, 1) := zdal_p dlB_T_take_129 (i := 7) rfl
theorem d_T_take_116 : decode (zb m_T_take) 116 = .ok (.getfield 28, 3) := zdal_p dlB_T_take_129 (i := 8) rfl
theorem d_T_take_119 : decode (zb m_T_take) 119 = .ok (.bipush 39, 2) := zdal_p dlB_T_take_129 (i := 9) rfl
theorem d_T_take_121 : decode (zb m_T_take) 121 = .ok (.invokevirtual 284, 3) := zdal_p dlB_T_take_129 (i := 10) rfl
theorem d_T_take_124 : decode (zb m_T_take) 124 = .ok (.aload_n 0, 1) := zdal_p dlB_T_take_129 (i := 11) rfl
theorem d_T_take_125 : decode (zb m_T_take) 125 = .ok (.getfield 28, 3) := zdal_p dlB_T_take_129 (i := 12) rfl
theorem d_T_take_128 : decode (zb m_T_take) 128 = .ok (.getfield 169, 3) := zdal_p dlB_T_take_129 (i := 13) rfl
theorem d_T_take_131 : decode (zb m_T_take) 131 = .ok (.iconst 0, 1) := zdal_p dlB_T_take_129 (i := 14) rfl
theorem d_T_take_132 : decode (zb m_T_take) 132 = .ok (.iconst 0, 1) := zdal_p dlB_T_take_129 (i := 15) rfl
theorem d_T_take_133 : decode (zb m_T_take) 133 = .ok (.invokevirtual 250, 3) := zdal_p dlB_T_take_129 (i := 16) rfl
theorem d_T_take_136 : decode (zb m_T_take) 136 = .ok (.l2i, 1) := zdal_p dlB_T_take_129 (i := 17) rfl
theorem d_T_take_137 : decode (zb m_T_take) 137 = .ok (.ireturn, 1) := zdal_p dlB_T_take_129 (i := 18) rfl
theorem dlB_Group_countKept_130 : zdal (zb m_Group_countKept) [(0, (.iconst 0, 1)), (1, (.istore 4, 2)), (3, (.iconst 0, 1)), (4, (.istore 5, 2)), (6, (.iconst 0, 1)), (7, (.istore 6, 2)), (9, (.iload 6, 2)), (11, (.aload_n 0, 1)), (12, (.getfield 32, 3)), (15, (.if_icmp .ge 46, 3)), (18, (.aload_n 0, 1)), (19, (.iload 6, 2)), (21, (.iload_n 3, 1)), (22, (.invokevirtual 103, 3)), (25, (.istore 7, 2)), (27, (.iload 7, 2)), (29, (.iconst 1, 1)), (30, (.iload 6, 2)), (32, (.ishl, 1)), (33, (.if_icmp .ne 6, 3)), (36, (.iinc 4 1, 3)), (39, (.iload 7, 2)), (41, (.iload 7, 2)), (43, (.ineg, 1))] = true := zYQs 0 (by decide +kernel)
theorem dlB_Group_countKept_131 : zdal (zb m_Group_countKept) [(44, (.iand, 1)), (45, (.iconst 1, 1)), (46, (.iload 6, 2)), (48, (.ishl, 1)), (49, (.if_icmp .ne 6, 3)), (52, (.iinc 5 1, 3)), (55, (.iinc 6 1, 3)), (58, (.goto (-49), 3)), (61, (.iload_n 1, 1)), (62, (.ifCond .ne 6, 3)), (65, (.iload 4, 2)), (67, (.ireturn, 1)), (68, (.iload_n 1, 1)), (69, (.iconst 1, 1)), (70, (.if_icmp .ne 12, 3)), (73, (.aload_n 0, 1)), (74, (.iload_n 2, 1)), (75, (.iload_n 3, 1)), (76, (.invokevirtual 106, 3)), (79, (.goto 9, 3)), (82, (.iload_n 2, 1)), (83, (.iload 5, 2)), (85, (.invokestatic 109, 3)), (88, (.ireturn, 1))] = true := zYQs 44 (by decide +kernel)
theorem dlB_Group_countSetsKept_132 : zdal (zb m_Group_countSetsKept) [(0, (.iconst 0, 1)), (1, (.istore_n 3, 1)), (2, (.iconst 0, 1)), (3, (.istore 4, 2)), (5, (.iload 4, 2)), (7, (.iconst 1, 1)), (8, (.aload_n 0, 1)), (9, (.getfield 32, 3)), (12, (.ishl, 1)), (13, (.if_icmp .ge 31, 3)), (16, (.iload 4, 2)), (18, (.invokestatic 83, 3)), (21, (.iload_n 1, 1)), (22, (.if_icmp .ne 16, 3)), (25, (.aload_n 0, 1)), (26, (.iload 4, 2)), (28, (.iload_n 2, 1)), (29, (.invokevirtual 112, 3)), (32, (.ifCond .eq 6, 3)), (35, (.iinc 3 1, 3)), (38, (.iinc 4 1, 3)), (41, (.goto (-36), 3)), (44, (.iload_n 3, 1)), (45, (.ireturn, 1))] = true := zYQs 0 (by decide +kernel)
theorem dlB_Group_isSetKept_133 : zdal (zb m_Group_isSetKept) [(0, (.iconst 0, 1)), (1, (.istore_n 3, 1)), (2, (.iload_n 3, 1)), (3, (.aload_n 0, 1)), (4, (.getfield 32, 3)), (7, (.if_icmp .ge 32, 3)), (10, (.iload_n 1, 1)), (11, (.iload_n 3, 1)), (12, (.invokestatic 73, 3)), (15, (.ifCond .eq 18, 3)), (18, (.aload_n 0, 1)), (19, (.iload_n 3, 1)), (20, (.iload_n 2, 1)), (21, (.invokevirtual 103, 3)), (24, (.iload_n 1, 1)), (25, (.invokestatic 115, 3)), (28, (.ifCond .ne 5, 3)), (31, (.iconst 0, 1)), (32, (.ireturn, 1)), (33, (.iinc 3 1, 3)), (36, (.goto (-34), 3)), (39, (.iconst 1, 1)), (40, (.ireturn, 1))] = true := zYQs 0 (by decide +kernel)
theorem dlB_Group_power_134 : zdal (zb m_Group_power) [(0, (.iconst 1, 1)), (1, (.istore_n 2, 1)), (2, (.iconst 0, 1)), (3, (.istore_n 3, 1)), (4, (.iload_n 3, 1)), (5, (.iload_n 1, 1)), (6, (.if_icmp .ge 13, 3)), (9, (.iload_n 2, 1)), (10, (.iload_n 0, 1)), (11, (.imul, 1)), (12, (.istore_n 2, 1)), (13, (.iinc 3 1, 3)), (16, (.goto (-12), 3)), (19, (.iload_n 2, 1)), (20, (.ireturn, 1))] = true := zYQs 0 (by decide +kernel)
theorem dlB_T_marks_135 : zdal (zb m_T_marks) [(0, (.aload_n 0, 1)), (1, (.getfield 21, 3)), (4, (.aload_n 0, 1)), (5, (.getfield 28, 3)), (8, (.getfield 169, 3)), (11, (.getfield 262, 3)), (14, (.aload_n 0, 1)), (15, (.getfield 28, 3)), (18, (.getfield 85, 3)), (21, (.getfield 94, 3)), (24, (.invokevirtual 299, 3)), (27, (.istore_n 1, 1)), (28, (.aload_n 0, 1)), (29, (.getfield 10, 3)), (32, (.iconst 0, 1)), (33, (.putfield 42, 3)), (36, (.iload_n 1, 1)), (37, (.ifCond .ne 6, 3)), (40, (.bipush (-2), 2)), (42, (.ireturn, 1)), (43, (.aload_n 0, 1)), (44, (.getfield 28, 3)), (47, (.getfield 85, 3)), (50, (.aload_n 0, 1))] = true := zYQs 0 (by decide +kernel)
theorem dlB_T_marks_136 : zdal (zb m_T_marks) [(51, (.getfield 28, 3)), (54, (.getfield 169, 3)), (57, (.getfield 262, 3)), (60, (.invokevirtual 303, 3)), (63, (.istore_n 2, 1)), (64, (.iload_n 2, 1)), (65, (.iconst (-1), 1)), (66, (.if_icmp .eq 7, 3)), (69, (.iload_n 2, 1)), (70, (.iconst 1, 1)), (71, (.iadd, 1)), (72, (.ireturn, 1)), (73, (.aload_n 0, 1)), (74, (.getfield 28, 3)), (77, (.getfield 169, 3)), (80, (.bipush 39, 2)), (82, (.invokevirtual 296, 3)), (85, (.aload_n 0, 1)), (86, (.getfield 28, 3)), (89, (.bipush 39, 2)), (91, (.invokevirtual 284, 3)), (94, (.iconst 0, 1)), (95, (.ireturn, 1))] = true := zYQs 51 (by decide +kernel)
theorem dlB_Reader_readRow_137 : zdal (zb m_Reader_readRow) [(0, (.aload_n 0, 1)), (1, (.getfield 15, 3)), (4, (.iconst 0, 1)), (5, (.invokevirtual 188, 3)), (8, (.istore_n 3, 1)), (9, (.iconst 0, 1)), (10, (.istore 4, 2)), (12, (.iload 4, 2)), (14, (.iload_n 2, 1)), (15, (.if_icmp .ge 164, 3)), (18, (.iload_n 3, 1)), (19, (.aload_n 0, 1)), (20, (.getfield 15, 3)), (23, (.getfield 191, 3)), (26, (.if_icmp .ge 23, 3)), (29, (.aload_n 0, 1)), (30, (.getfield 15, 3)), (33, (.getfield 194, 3)), (36, (.iload_n 3, 1)), (37, (.invokevirtual 198, 3)), (40, (.bipush 45, 2)), (42, (.if_icmp .ne 7, 3)), (45, (.iconst 1, 1)), (46, (.goto 4, 3))] = true := zYQs 0 (by decide +kernel)
theorem dlB_Reader_readRow_138 : zdal (zb m_Reader_readRow) [(49, (.iconst 0, 1)), (50, (.istore 5, 2)), (52, (.iload 5, 2)), (54, (.ifCond .eq 9, 3)), (57, (.iload_n 3, 1)), (58, (.iconst 1, 1)), (59, (.iadd, 1)), (60, (.goto 4, 3)), (63, (.iload_n 3, 1)), (64, (.istore 6, 2)), (66, (.aload_n 0, 1)), (67, (.getfield 15, 3)), (70, (.iload 6, 2)), (72, (.invokevirtual 203, 3)), (75, (.istore 7, 2)), (77, (.iload 7, 2)), (79, (.iload 6, 2)), (81, (.isub, 1)), (82, (.istore 8, 2)), (84, (.iload 8, 2)), (86, (.iconst 1, 1)), (87, (.if_icmp .lt 40, 3)), (90, (.iload 8, 2)), (92, (.bipush 6, 2))] = true := zYQs 49 (by decide +kernel)
theorem dlB_Reader_readRow_139 : zdal (zb m_Reader_readRow) [(94, (.if_icmp .gt 33, 3)), (97, (.iload 7, 2)), (99, (.aload_n 0, 1)), (100, (.getfield 15, 3)), (103, (.getfield 191, 3)), (106, (.if_icmp .ge 23, 3)), (109, (.aload_n 0, 1)), (110, (.getfield 15, 3)), (113, (.getfield 194, 3)), (116, (.iload 7, 2)), (118, (.invokevirtual 198, 3)), (121, (.invokestatic 206, 3)), (124, (.ifCond .ne 5, 3)), (127, (.iconst 0, 1)), (128, (.ireturn, 1)), (129, (.aload_n 0, 1)), (130, (.getfield 15, 3)), (133, (.iload 6, 2)), (135, (.iload 7, 2)), (137, (.invokevirtual 209, 3)), (140, (.istore 9, 2)), (142, (.aload_n 1, 1)), (143, (.iload 4, 2)), (145, (.iload 5, 2))] = true := zYQs 94 (by decide +kernel)
theorem d_Reader_readRow_127 : decode (zb m_Reader_readRow) 127 = .ok (.iconst 0, 1) := zdal_p dlB_Reader_readRow_139 (i := 13) rfl
theorem d_Reader_readRow_128 : decode (zb m_Reader_readRow) 128 = .ok (.ireturn, 1) := zdal_p dlB_Reader_readRow_139 (i := 14) rfl
theorem d_Reader_readRow_129 : decode (zb m_Reader_readRow) 129 = .ok (.aload_n 0, 1) := zdal_p dlB_Reader_readRow_139 (i := 15) rfl
theorem d_Reader_readRow_130 : decode (zb m_Reader_readRow) 130 = .ok (.getfield 15, 3) := zdal_p dlB_Reader_readRow_139 (i := 16) rfl
theorem d_Reader_readRow_133 : decode (zb m_Reader_readRow) 133 = .ok (.iload 6, 2) := zdal_p dlB_Reader_readRow_139 (i := 17) rfl
theorem d_Reader_readRow_135 : decode (zb m_Reader_readRow) 135 = .ok (.iload 7, 2) := zdal_p dlB_Reader_readRow_139 (i := 18) rfl
theorem d_Reader_readRow_137 : decode (zb m_Reader_readRow) 137 = .ok (.invokevirtual 209, 3) := zdal_p dlB_Reader_readRow_139 (i := 19) rfl
theorem d_Reader_readRow_140 : decode (zb m_Reader_readRow) 140 = .ok (.istore 9, 2) := zdal_p dlB_Reader_readRow_139 (i := 20) rfl
theorem d_Reader_readRow_142 : decode (zb m_Reader_readRow) 142 = .ok (.aload_n 1, 1) := zdal_p dlB_Reader_readRow_139 (i := 21) rfl
theorem d_Reader_readRow_143 : decode (zb m_Reader_readRow) 143 = .ok (.iload 4, 2) := zdal_p dlB_Reader_readRow_139 (i := 22) rfl
theorem d_Reader_readRow_145 : decode (zb m_Reader_readRow) 145 = .ok (.iload 5, 2) := zdal_p dlB_Reader_readRow_139 (i := 23) rfl
theorem dlB_Reader_readRow_140 : zdal (zb m_Reader_readRow) [(147, (.ifCond .eq 10, 3)), (150, (.iload 9, 2)), (152, (.ineg, 1)), (153, (.i2l, 1)), (154, (.goto 6, 3)), (157, (.iload 9, 2)), (159, (.i2l, 1)), (160, (.invokevirtual 212, 3)), (163, (.aload_n 0, 1)), (164, (.getfield 15, 3)), (167, (.iload 7, 2)), (169, (.invokevirtual 188, 3)), (172, (.istore_n 3, 1)), (173, (.iinc 4 1, 3)), (176, (.goto (-164), 3)), (179, (.iload_n 3, 1)), (180, (.aload_n 0, 1)), (181, (.getfield 15, 3)), (184, (.getfield 191, 3)), (187, (.if_icmp .lt 7, 3)), (190, (.iconst 1, 1)), (191, (.goto 4, 3)), (194, (.iconst 0, 1)), (195, (.ireturn, 1))] = true := zYQs 147 (by decide +kernel)
theorem d_Reader_readRow_147 : decode (zb m_Reader_readRow) 147 = .ok (.ifCond .eq 10, 3) := zdal_p dlB_Reader_readRow_140 (i := 0) rfl
theorem d_Reader_readRow_160 : decode (zb m_Reader_readRow) 160 = .ok (.invokevirtual 212, 3) := zdal_p dlB_Reader_readRow_140 (i := 7) rfl
theorem d_Reader_readRow_163 : decode (zb m_Reader_readRow) 163 = .ok (.aload_n 0, 1) := zdal_p dlB_Reader_readRow_140 (i := 8) rfl
theorem d_Reader_readRow_164 : decode (zb m_Reader_readRow) 164 = .ok (.getfield 15, 3) := zdal_p dlB_Reader_readRow_140 (i := 9) rfl
theorem d_Reader_readRow_167 : decode (zb m_Reader_readRow) 167 = .ok (.iload 7, 2) := zdal_p dlB_Reader_readRow_140 (i := 10) rfl
theorem d_Reader_readRow_169 : decode (zb m_Reader_readRow) 169 = .ok (.invokevirtual 188, 3) := zdal_p dlB_Reader_readRow_140 (i := 11) rfl
theorem d_Reader_readRow_172 : decode (zb m_Reader_readRow) 172 = .ok (.istore_n 3, 1) := zdal_p dlB_Reader_readRow_140 (i := 12) rfl
theorem d_Reader_readRow_173 : decode (zb m_Reader_readRow) 173 = .ok (.iinc 4 1, 3) := zdal_p dlB_Reader_readRow_140 (i := 13) rfl
theorem d_Reader_readRow_176 : decode (zb m_Reader_readRow) 176 = .ok (.goto (-164), 3) := zdal_p dlB_Reader_readRow_140 (i := 14) rfl
theorem dlB_Sorts_firstIncongruent_141 : zdal (zb m_Sorts_firstIncongruent) [(0, (.iconst 0, 1)), (1, (.istore_n 2, 1)), (2, (.iload_n 2, 1)), (3, (.aload_n 0, 1)), (4, (.getfield 83, 3)), (7, (.if_icmp .ge 35, 3)), (10, (.aload_n 0, 1)), (11, (.iload_n 2, 1)), (12, (.invokevirtual 120, 3)), (15, (.istore_n 3, 1)), (16, (.iload_n 3, 1)), (17, (.ifCond .le 19, 3)), (20, (.aload_n 0, 1)), (21, (.iload_n 2, 1)), (22, (.aload_n 1, 1)), (23, (.invokevirtual 123, 3)), (26, (.iload_n 3, 1)), (27, (.i2l, 1)), (28, (.lrem, 1)), (29, (.lconst 0, 1)), (30, (.lcmp, 1)), (31, (.ifCond .eq 5, 3)), (34, (.iload_n 2, 1)), (35, (.ireturn, 1))] = true := zYQs 0 (by decide +kernel)
theorem dlB_Sorts_firstIncongruent_142 : zdal (zb m_Sorts_firstIncongruent) [(36, (.iinc 2 1, 3)), (39, (.goto (-37), 3)), (42, (.iconst (-1), 1)), (43, (.ireturn, 1))] = true := zYQs 36 (by decide +kernel)
theorem dlB_T_uses_143 : zdal (zb m_T_uses) [(0, (.aload_n 0, 1)), (1, (.getfield 28, 3)), (4, (.iload_n 1, 1)), (5, (.invokevirtual 245, 3)), (8, (.ifCond .ne 5, 3)), (11, (.iconst (-1), 1)), (12, (.ireturn, 1)), (13, (.aload_n 0, 1)), (14, (.getfield 28, 3)), (17, (.iconst 1, 1)), (18, (.iload_n 1, 1)), (19, (.iadd, 1)), (20, (.invokevirtual 284, 3)), (23, (.aload_n 0, 1)), (24, (.getfield 28, 3)), (27, (.getfield 169, 3)), (30, (.iconst 0, 1)), (31, (.invokevirtual 253, 3)), (34, (.ireturn, 1))] = true := zYQs 0 (by decide +kernel)
theorem dlB_T_grows_144 : zdal (zb m_T_grows) [(0, (.iload_n 1, 1)), (1, (.bipush (-9), 2)), (3, (.if_icmp .lt 37, 3)), (6, (.iload_n 1, 1)), (7, (.bipush 9, 2)), (9, (.if_icmp .gt 31, 3)), (12, (.iload_n 2, 1)), (13, (.sipush (-999), 3)), (16, (.if_icmp .lt 24, 3)), (19, (.iload_n 2, 1)), (20, (.sipush 999, 3)), (23, (.if_icmp .gt 17, 3)), (26, (.aload_n 0, 1)), (27, (.getfield 28, 3)), (30, (.getfield 85, 3)), (33, (.iload_n 3, 1)), (34, (.invokevirtual 143, 3)), (37, (.ifCond .ne 7, 3)), (40, (.ldc2_w 248, 3)), (43, (.lreturn, 1)), (44, (.aload_n 0, 1)), (45, (.getfield 28, 3)), (48, (.getfield 169, 3)), (51, (.iload_n 1, 1))] = true := zYQs 0 (by decide +kernel)
theorem d_T_grows_40 : decode (zb m_T_grows) 40 = .ok (.ldc2_w 248, 3) := zdal_p dlB_T_grows_144 (i := 18) rfl
theorem d_T_grows_43 : decode (zb m_T_grows) 43 = .ok (.lreturn, 1) := zdal_p dlB_T_grows_144 (i := 19) rfl
theorem dlB_T_grows_145 : zdal (zb m_T_grows) [(52, (.iload_n 2, 1)), (53, (.iload_n 3, 1)), (54, (.invokevirtual 307, 3)), (57, (.aload_n 0, 1)), (58, (.getfield 28, 3)), (61, (.getfield 169, 3)), (64, (.bipush 39, 2)), (66, (.invokevirtual 311, 3)), (69, (.ifCond .ne 7, 3)), (72, (.ldc2_w 248, 3)), (75, (.lreturn, 1)), (76, (.aload_n 0, 1)), (77, (.getfield 28, 3)), (80, (.bipush 39, 2)), (82, (.invokevirtual 284, 3)), (85, (.aload_n 0, 1)), (86, (.getfield 28, 3)), (89, (.getfield 169, 3)), (92, (.iconst 0, 1)), (93, (.iload_n 3, 1)), (94, (.invokevirtual 179, 3)), (97, (.lreturn, 1))] = true := zYQs 52 (by decide +kernel)
theorem dlB_Sums_putGrown_146 : zdal (zb m_Sums_putGrown) [(0, (.iconst 0, 1)), (1, (.istore 4, 2)), (3, (.iload 4, 2)), (5, (.aload_n 0, 1)), (6, (.getfield 23, 3)), (9, (.getfield 35, 3)), (12, (.if_icmp .ge 40, 3)), (15, (.aload_n 0, 1)), (16, (.bipush 39, 2)), (18, (.iload 4, 2)), (20, (.iload_n 1, 1)), (21, (.i2l, 1)), (22, (.aload_n 0, 1)), (23, (.iconst 0, 1)), (24, (.iload 4, 2)), (26, (.invokevirtual 67, 3)), (29, (.lmul, 1)), (30, (.iload 4, 2)), (32, (.iload_n 3, 1)), (33, (.if_icmp .ne 7, 3)), (36, (.iload_n 2, 1)), (37, (.goto 4, 3)), (40, (.iconst 0, 1)), (41, (.i2l, 1))] = true := zYQs 0 (by decide +kernel)
theorem dlB_Sums_putGrown_147 : zdal (zb m_Sums_putGrown) [(42, (.ladd, 1)), (43, (.invokevirtual 70, 3)), (46, (.iinc 4 1, 3)), (49, (.goto (-46), 3)), (52, (.return_, 1))] = true := zYQs 42 (by decide +kernel)
theorem dlB_T_undo_148 : zdal (zb m_T_undo) [(0, (.aload_n 0, 1)), (1, (.getfield 28, 3)), (4, (.getfield 105, 3)), (7, (.ifCond .le 13, 3)), (10, (.aload_n 0, 1)), (11, (.getfield 28, 3)), (14, (.invokevirtual 314, 3)), (17, (.goto 4, 3)), (20, (.iconst (-1), 1)), (21, (.ireturn, 1))] = true := zYQs 0 (by decide +kernel)
theorem dlB_Troupe_takeBack_149 : zdal (zb m_Troupe_takeBack) [(0, (.aload_n 0, 1)), (1, (.aload_n 0, 1)), (2, (.getfield 71, 3)), (5, (.bipush 12, 2)), (7, (.iadd, 1)), (8, (.iconst 1, 1)), (9, (.isub, 1)), (10, (.bipush 12, 2)), (12, (.irem, 1)), (13, (.putfield 71, 3)), (16, (.aload_n 0, 1)), (17, (.dup, 1)), (18, (.getfield 68, 3)), (21, (.iconst 1, 1)), (22, (.isub, 1)), (23, (.putfield 68, 3)), (26, (.aload_n 0, 1)), (27, (.getfield 32, 3)), (30, (.bipush 9, 2)), (32, (.aload_n 0, 1)), (33, (.getfield 71, 3)), (36, (.iadd, 1)), (37, (.iconst 0, 1)), (38, (.invokevirtual 93, 3))] = true := zYQs 0 (by decide +kernel)
theorem dlB_Troupe_takeBack_150 : zdal (zb m_Troupe_takeBack) [(41, (.aload_n 0, 1)), (42, (.getfield 68, 3)), (45, (.ireturn, 1))] = true := zYQs 41 (by decide +kernel)
theorem dlB_Integer_bitCount_152 : zdal (zb m_Integer_bitCount) [(0, (.iload_n 0, 1)), (1, (.iload_n 0, 1)), (2, (.iconst 1, 1)), (3, (.iushr, 1)), (4, (.ldc_w 265, 3)), (7, (.iand, 1)), (8, (.isub, 1)), (9, (.istore_n 0, 1)), (10, (.iload_n 0, 1)), (11, (.ldc_w 266, 3)), (14, (.iand, 1)), (15, (.iload_n 0, 1)), (16, (.iconst 2, 1)), (17, (.iushr, 1)), (18, (.ldc_w 266, 3)), (21, (.iand, 1)), (22, (.iadd, 1)), (23, (.istore_n 0, 1)), (24, (.iload_n 0, 1)), (25, (.iload_n 0, 1)), (26, (.iconst 4, 1)), (27, (.iushr, 1)), (28, (.iadd, 1)), (29, (.ldc_w 267, 3))] = true := zYQs 0 (by decide +kernel)
theorem dlB_Integer_bitCount_153 : zdal (zb m_Integer_bitCount) [(32, (.iand, 1)), (33, (.istore_n 0, 1)), (34, (.iload_n 0, 1)), (35, (.iload_n 0, 1)), (36, (.bipush 8, 2)), (38, (.iushr, 1)), (39, (.iadd, 1)), (40, (.istore_n 0, 1)), (41, (.iload_n 0, 1)), (42, (.iload_n 0, 1)), (43, (.bipush 16, 2)), (45, (.iushr, 1)), (46, (.iadd, 1)), (47, (.istore_n 0, 1)), (48, (.iload_n 0, 1)), (49, (.bipush 63, 2)), (51, (.iand, 1)), (52, (.ireturn, 1))] = true := zYQs 32 (by decide +kernel)
