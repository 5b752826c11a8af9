/-! methods of the landed part, walked by program -/
set_option maxHeartbeats 4000000 in
theorem c_Units_narrowAt (l : Launch) (B : Nat) (M : zMem) (hT : zTy B M) (q : Nat) (hqB : q < B) (hqk : (zsh M q).1 = 9 + 3) (x0 : Int32) : zC l m_Units_narrowAt 0 0 [.ref q, .int x0] M (zqV B M [(9, 3)]) := by
  refine zC_of (L0 := [some (.ref q), some (.int x0), none, none, none, none, none, none, none]) md_Units_narrowAt (Nat.le_of_ble_eq_true rfl) rfl ?_ zQ0
  have hm : zMod B [(9, 3)] M M := zMod.rf
  refine zw_aload_n (pc := 0) (n := 0) (x := q) rfl d_Units_narrowAt_0 ?_
  obtain ⟨r1, r1f, r1B, r1k⟩ := hT.1 q 9 0 hqB hqk (by decide) (by decide) rfl
  refine zc_getF hm (pc := 1) f_Units_23 rfl hqk r1f d_Units_narrowAt_1 ?_
  obtain ⟨r2, r2f, r2B, r2k⟩ := hT.1 r1 6 0 r1B r1k (by decide) (by decide) rfl
  refine zc_getF hm (pc := 4) f_Units_50 rfl r1k r2f d_Units_narrowAt_4 ?_
  refine zw_astore_n (pc := 7) (i := 2) (L2 := [some (.ref q), some (.int x0), some (.ref r2), none, none, none, none, none, none]) rfl (by decide) rfl d_Units_narrowAt_7 ?_
  refine zw_aload_n (pc := 8) (n := 0) (x := q) rfl d_Units_narrowAt_8 ?_
  refine zc_getF hm (pc := 9) f_Units_23 rfl hqk r1f d_Units_narrowAt_9 ?_
  obtain ⟨r3, r3f, r3B, r3k⟩ := hT.1 r1 6 4 r1B r1k (by decide) (by decide) rfl
  refine zc_getF hm (pc := 12) f_Units_54 rfl r1k r3f d_Units_narrowAt_12 ?_
  refine zw_iload_n (pc := 15) (n := 1) (x := x0) rfl d_Units_narrowAt_15 ?_
  refine zc_callV hm (pc := 16) [.int x0] [] l_Units_57 (c_IntRow_at l B M (hT.mod hm) r3 r3B (hm.k r3k) x0) rfl rfl r3k (by decide) (by decide) (Nat.le_of_ble_eq_true rfl) d_Units_narrowAt_16 (fun r6 N4 hq5 => ?_)
  obtain ⟨hk9, v8, rfl⟩ := hq5
  have hn7 : zMod B [(9, 3)] M N4 := hm.call hk9 (by decide)
  show zW l m_Units_narrowAt (zn M + 0, zw M + 0) N4 19 [some (.ref q), some (.int x0), some (.ref r2), none, none, none, none, none, none] [.int v8] (zqV B M [(9, 3)])
  refine zw_istore_n (pc := 19) (i := 3) (L2 := [some (.ref q), some (.int x0), some (.ref r2), some (.int v8), none, none, none, none, none]) rfl (by decide) rfl d_Units_narrowAt_19 ?_
  refine zw_iconst (pc := 20) (v := 0) (by decide) d_Units_narrowAt_20 ?_
  refine zw_istore (pc := 21) (i := 4) (L2 := [some (.ref q), some (.int x0), some (.ref r2), some (.int v8), some (.int 0), none, none, none, none]) (by decide) rfl d_Units_narrowAt_21 ?_
  refine zw_aload_n (pc := 23) (n := 2) (x := r2) rfl d_Units_narrowAt_23 ?_
  refine zw_iload_n (pc := 24) (n := 3) (x := v8) rfl d_Units_narrowAt_24 ?_
  refine zc_callV hn7 (pc := 25) [.int v8] [] l_Units_61 (c_Group_normOf l B N4 (hT.mod hn7) r2 r2B (hn7.k r2k) v8) rfl rfl r2k (by decide) (by decide) (Nat.le_of_ble_eq_true rfl) d_Units_narrowAt_25 (fun r13 N11 hq12 => ?_)
  obtain ⟨hk16, v15, rfl⟩ := hq12
  have hn14 : zMod B [(9, 3)] M N11 := hn7.call hk16 (by decide)
  show zW l m_Units_narrowAt (zn M + 0, zw M + 0) N11 28 [some (.ref q), some (.int x0), some (.ref r2), some (.int v8), some (.int 0), none, none, none, none] [.int v15] (zqV B M [(9, 3)])
  refine zw_istore (pc := 28) (i := 5) (L2 := [some (.ref q), some (.int x0), some (.ref r2), some (.int v8), some (.int 0), some (.int v15), none, none, none]) (by decide) rfl d_Units_narrowAt_28 ?_
  refine zw_iconst (pc := 30) (v := 0) (by decide) d_Units_narrowAt_30 ?_
  refine zw_istore (pc := 31) (i := 6) (L2 := [some (.ref q), some (.int x0), some (.ref r2), some (.int v8), some (.int 0), some (.int v15), some (.int 0), none, none]) (by decide) rfl d_Units_narrowAt_31 ?_
  have lp_33 : ∀ (n : Nat) (u18 : Int32) (u19 : Int32) (N20 : zMem) (hn21 : zMod B [(9, 3)] M N20), zvu u19 (zi M r2 7) < n → zW l m_Units_narrowAt (zn M + 0, zw M + 0) N20 33 [some (.ref q), some (.int x0), some (.ref r2), some (.int v8), some (.int u18), some (.int v15), some (.int u19), none, none] [] (zqV B M [(9, 3)]) := by
    intro n
    induction n with
    | zero =>
      intro u18 u19 N20 hn21 h0
      exact absurd h0 (Nat.not_lt_zero _)
    | succ n ih_33 =>
      intro u18 u19 N20 hn21 hlt_33
      refine zw_iload (pc := 33) (i := 6) (x := u19) rfl d_Units_narrowAt_33 ?_
      refine zw_aload_n (pc := 35) (n := 2) (x := r2) rfl d_Units_narrowAt_35 ?_
      refine zc_getI0 hn21 (pc := 36) (by decide) f_Units_66 rfl r2k d_Units_narrowAt_36 ?_
      refine zw_icmp_ge (pc := 39) (tgt := 105) (by decide) d_Units_narrowAt_39 (fun hc_39 => ?_) (fun hc_39 => ?_)
      · refine zw_iconst (pc := 105) (v := 0) (by decide) d_Units_narrowAt_105 ?_
        refine zw_istore (pc := 106) (i := 6) (L2 := [some (.ref q), some (.int x0), some (.ref r2), some (.int v8), some (.int u18), some (.int v15), some (.int 0), none, none]) (by decide) rfl d_Units_narrowAt_106 ?_
        have lp_108 : ∀ (n : Nat) (u22 : Int32) (N23 : zMem) (hn24 : zMod B [(9, 3)] M N23), zvu u22 (zi M r2 7) < n → zW l m_Units_narrowAt (zn M + 0, zw M + 0) N23 108 [some (.ref q), some (.int x0), some (.ref r2), some (.int v8), some (.int u18), some (.int v15), some (.int u22), none, none] [] (zqV B M [(9, 3)]) := by
          intro n
          induction n with
          | zero =>
            intro u22 N23 hn24 h0
            exact absurd h0 (Nat.not_lt_zero _)
          | succ n ih_108 =>
            intro u22 N23 hn24 hlt_108
            refine zw_iload (pc := 108) (i := 6) (x := u22) rfl d_Units_narrowAt_108 ?_
            refine zw_aload_n (pc := 110) (n := 2) (x := r2) rfl d_Units_narrowAt_110 ?_
            refine zc_getI0 hn24 (pc := 111) (by decide) f_Units_66 rfl r2k d_Units_narrowAt_111 ?_
            refine zw_icmp_ge (pc := 114) (tgt := 215) (by decide) d_Units_narrowAt_114 (fun hc_114 => ?_) (fun hc_114 => ?_)
            · exact zw_vret (S := []) (pc := 215) rfl d_Units_narrowAt_215 ⟨hn24, rfl⟩
            · refine zw_iconst (pc := 117) (v := 0) (by decide) d_Units_narrowAt_117 ?_
              refine zw_istore (pc := 118) (i := 7) (L2 := [some (.ref q), some (.int x0), some (.ref r2), some (.int v8), some (.int u18), some (.int v15), some (.int u22), some (.int 0), none]) (by decide) rfl d_Units_narrowAt_118 ?_
              have lp_120 : ∀ (n : Nat) (u25 : Int32) (N26 : zMem) (hn27 : zMod B [(9, 3)] M N26), zvu u25 (zi M r2 7) < n → zW l m_Units_narrowAt (zn M + 0, zw M + 0) N26 120 [some (.ref q), some (.int x0), some (.ref r2), some (.int v8), some (.int u18), some (.int v15), some (.int u22), some (.int u25), none] [] (zqV B M [(9, 3)]) := by
                intro n
                induction n with
                | zero =>
                  intro u25 N26 hn27 h0
                  exact absurd h0 (Nat.not_lt_zero _)
                | succ n ih_120 =>
                  intro u25 N26 hn27 hlt_120
                  refine zw_iload (pc := 120) (i := 7) (x := u25) rfl d_Units_narrowAt_120 ?_
                  refine zw_aload_n (pc := 122) (n := 2) (x := r2) rfl d_Units_narrowAt_122 ?_
                  refine zc_getI0 hn27 (pc := 123) (by decide) f_Units_66 rfl r2k d_Units_narrowAt_123 ?_
                  refine zw_icmp_ge (pc := 126) (tgt := 209) (by decide) d_Units_narrowAt_126 (fun hc_126 => ?_) (fun hc_126 => ?_)
                  · refine zw_iinc (pc := 209) (i := 6) (x := u22) (v := u22 + Int32.ofInt 1) (L2 := [some (.ref q), some (.int x0), some (.ref r2), some (.int v8), some (.int u18), some (.int v15), some (.int (u22 + Int32.ofInt 1)), some (.int u25), none]) rfl rfl (by decide) rfl d_Units_narrowAt_209 ?_
                    refine zw_goto (pc := 212) (tgt := 108) (by decide) d_Units_narrowAt_212 ?_
                    refine zW_le [some (.ref q), some (.int x0), some (.ref r2), some (.int v8), some (.int u18), some (.int v15), some (.int (u22 + Int32.ofInt 1)), none, none] (⟨rfl, rfl, rfl, rfl, rfl, rfl, rfl, trivial⟩) ?_
                    exact ih_108 (u22 + Int32.ofInt 1) N26 hn27 (Nat.lt_of_lt_of_le (z_up hc_114) (Nat.le_of_lt_succ hlt_108))
                  · refine zw_iload (pc := 129) (i := 4) (x := u18) rfl d_Units_narrowAt_129 ?_
                    refine zw_iload (pc := 131) (i := 6) (x := u22) rfl d_Units_narrowAt_131 ?_
                    refine zc_callS hn27 (pc := 133) [.int u18, .int u22] [] l_Units_69 (c_T_isIn l B N26 (hT.mod hn27) u18 u22) rfl rfl (by decide) (Nat.le_of_ble_eq_true rfl) d_Units_narrowAt_133 (fun r30 N28 hq29 => ?_)
                    obtain ⟨hk33, v32, rfl, zv32⟩ := hq29
                    have hn31 : zMod B [(9, 3)] M N28 := hn27.call hk33 (by decide)
                    show zW l m_Units_narrowAt (zn M + 0, zw M + 0) N28 136 [some (.ref q), some (.int x0), some (.ref r2), some (.int v8), some (.int u18), some (.int v15), some (.int u22), some (.int u25), none] [.int v32] (zqV B M [(9, 3)])
                    have j_203 : ∀ (N35 : zMem) (hn36 : zMod B [(9, 3)] M N35), zW l m_Units_narrowAt (zn M + 0, zw M + 0) N35 203 [some (.ref q), some (.int x0), some (.ref r2), some (.int v8), some (.int u18), some (.int v15), some (.int u22), some (.int u25), none] [] (zqV B M [(9, 3)]) := by
                      intro N35 hn36
                      refine zw_iinc (pc := 203) (i := 7) (x := u25) (v := u25 + Int32.ofInt 1) (L2 := [some (.ref q), some (.int x0), some (.ref r2), some (.int v8), some (.int u18), some (.int v15), some (.int u22), some (.int (u25 + Int32.ofInt 1)), none]) rfl rfl (by decide) rfl d_Units_narrowAt_203 ?_
                      refine zw_goto (pc := 206) (tgt := 120) (by decide) d_Units_narrowAt_206 ?_
                      exact ih_120 (u25 + Int32.ofInt 1) N35 hn36 (Nat.lt_of_lt_of_le (z_up hc_126) (Nat.le_of_lt_succ hlt_120))
                    refine zw_if_eq (pc := 136) (tgt := 203) (by decide) d_Units_narrowAt_136 (fun hc_136 => ?_) (fun hc_136 => ?_)
                    · exact j_203 N28 hn31
                    · refine zw_iload (pc := 139) (i := 4) (x := u18) rfl d_Units_narrowAt_139 ?_
                      refine zw_iload (pc := 141) (i := 7) (x := u25) rfl d_Units_narrowAt_141 ?_
                      refine zc_callS hn31 (pc := 143) [.int u18, .int u25] [] l_Units_69 (c_T_isIn l B N28 (hT.mod hn31) u18 u25) rfl rfl (by decide) (Nat.le_of_ble_eq_true rfl) d_Units_narrowAt_143 (fun r39 N37 hq38 => ?_)
                      obtain ⟨hk42, v41, rfl, zv41⟩ := hq38
                      have hn40 : zMod B [(9, 3)] M N37 := hn31.call hk42 (by decide)
                      show zW l m_Units_narrowAt (zn M + 0, zw M + 0) N37 146 [some (.ref q), some (.int x0), some (.ref r2), some (.int v8), some (.int u18), some (.int v15), some (.int u22), some (.int u25), none] [.int v41] (zqV B M [(9, 3)])
                      refine zw_if_eq (pc := 146) (tgt := 203) (by decide) d_Units_narrowAt_146 (fun hc_146 => ?_) (fun hc_146 => ?_)
                      · exact j_203 N37 hn40
                      · refine zw_aload_n (pc := 149) (n := 2) (x := r2) rfl d_Units_narrowAt_149 ?_
                        refine zw_iload_n (pc := 150) (n := 3) (x := v8) rfl d_Units_narrowAt_150 ?_
                        refine zw_aload_n (pc := 151) (n := 2) (x := r2) rfl d_Units_narrowAt_151 ?_
                        refine zw_iload (pc := 152) (i := 6) (x := u22) rfl d_Units_narrowAt_152 ?_
                        refine zw_iload (pc := 154) (i := 7) (x := u25) rfl d_Units_narrowAt_154 ?_
                        refine zc_callV hn40 (pc := 156) [.int u22, .int u25] [.int v8, .ref r2] l_Units_83 (c_Group_both l B N37 (hT.mod hn40) r2 r2B (hn40.k r2k) u22 u25) rfl rfl r2k (by decide) (by decide) (Nat.le_of_ble_eq_true rfl) d_Units_narrowAt_156 (fun r46 N44 hq45 => ?_)
                        obtain ⟨hk49, v48, rfl⟩ := hq45
                        have hn47 : zMod B [(9, 3)] M N44 := hn40.call hk49 (by decide)
                        show zW l m_Units_narrowAt (zn M + 0, zw M + 0) N44 159 [some (.ref q), some (.int x0), some (.ref r2), some (.int v8), some (.int u18), some (.int v15), some (.int u22), some (.int u25), none] [.int v48, .int v8, .ref r2] (zqV B M [(9, 3)])
                        refine zc_callV hn47 (pc := 159) [.int v8, .int v48] [] l_Units_73 (c_Group_leastOfCoset l B N44 (hT.mod hn47) r2 r2B (hn47.k r2k) v8 v48) rfl rfl r2k (by decide) (by decide) (Nat.le_of_ble_eq_true rfl) d_Units_narrowAt_159 (fun r53 N51 hq52 => ?_)
                        obtain ⟨hk56, v55, rfl⟩ := hq52
                        have hn54 : zMod B [(9, 3)] M N51 := hn47.call hk56 (by decide)
                        show zW l m_Units_narrowAt (zn M + 0, zw M + 0) N51 162 [some (.ref q), some (.int x0), some (.ref r2), some (.int v8), some (.int u18), some (.int v15), some (.int u22), some (.int u25), none] [.int v55] (zqV B M [(9, 3)])
                        refine zw_istore (pc := 162) (i := 8) (L2 := [some (.ref q), some (.int x0), some (.ref r2), some (.int v8), some (.int u18), some (.int v15), some (.int u22), some (.int u25), some (.int v55)]) (by decide) rfl d_Units_narrowAt_162 ?_
                        refine zw_aload_n (pc := 164) (n := 0) (x := q) rfl d_Units_narrowAt_164 ?_
                        refine zw_aload_n (pc := 165) (n := 0) (x := q) rfl d_Units_narrowAt_165 ?_
                        refine zw_iload_n (pc := 166) (n := 1) (x := x0) rfl d_Units_narrowAt_166 ?_
                        refine zc_callV hn54 (pc := 167) [.int x0] [.ref q] l_Units_80 (c_Units_bitOf l B N51 (hT.mod hn54) q hqB (hn54.k hqk) x0) rfl rfl hqk (by decide) (by decide) (Nat.le_of_ble_eq_true rfl) d_Units_narrowAt_167 (fun r60 N58 hq59 => ?_)
                        obtain ⟨hk63, v62, rfl⟩ := hq59
                        have hn61 : zMod B [(9, 3)] M N58 := hn54.call hk63 (by decide)
                        show zW l m_Units_narrowAt (zn M + 0, zw M + 0) N58 170 [some (.ref q), some (.int x0), some (.ref r2), some (.int v8), some (.int u18), some (.int v15), some (.int u22), some (.int u25), some (.int v55)] [.int v62, .ref q] (zqV B M [(9, 3)])
                        refine zw_aload_n (pc := 170) (n := 0) (x := q) rfl d_Units_narrowAt_170 ?_
                        obtain ⟨r65, r65f, r65B, r65k⟩ := hT.1 q 9 2 hqB hqk (by decide) (by decide) rfl
                        refine zc_getF hn61 (pc := 171) f_Units_20 rfl hqk r65f d_Units_narrowAt_171 ?_
                        refine zw_iload (pc := 174) (i := 6) (x := u22) rfl d_Units_narrowAt_174 ?_
                        refine zc_callV hn61 (pc := 176) [.int u22] [.int v62, .ref q] l_Units_57 (c_IntRow_at l B N58 (hT.mod hn61) r65 r65B (hn61.k r65k) u22) rfl rfl r65k (by decide) (by decide) (Nat.le_of_ble_eq_true rfl) d_Units_narrowAt_176 (fun r68 N66 hq67 => ?_)
                        obtain ⟨hk71, v70, rfl⟩ := hq67
                        have hn69 : zMod B [(9, 3)] M N66 := hn61.call hk71 (by decide)
                        show zW l m_Units_narrowAt (zn M + 0, zw M + 0) N66 179 [some (.ref q), some (.int x0), some (.ref r2), some (.int v8), some (.int u18), some (.int v15), some (.int u22), some (.int u25), some (.int v55)] [.int v70, .int v62, .ref q] (zqV B M [(9, 3)])
                        refine zw_ixor (pc := 179) d_Units_narrowAt_179 ?_
                        refine zw_aload_n (pc := 180) (n := 0) (x := q) rfl d_Units_narrowAt_180 ?_
                        refine zc_getF hn69 (pc := 181) f_Units_20 rfl hqk r65f d_Units_narrowAt_181 ?_
                        refine zw_iload (pc := 184) (i := 7) (x := u25) rfl d_Units_narrowAt_184 ?_
                        refine zc_callV hn69 (pc := 186) [.int u25] [.int (v62 ^^^ v70), .ref q] l_Units_57 (c_IntRow_at l B N66 (hT.mod hn69) r65 r65B (hn69.k r65k) u25) rfl rfl r65k (by decide) (by decide) (Nat.le_of_ble_eq_true rfl) d_Units_narrowAt_186 (fun r75 N73 hq74 => ?_)
                        obtain ⟨hk78, v77, rfl⟩ := hq74
                        have hn76 : zMod B [(9, 3)] M N73 := hn69.call hk78 (by decide)
                        show zW l m_Units_narrowAt (zn M + 0, zw M + 0) N73 189 [some (.ref q), some (.int x0), some (.ref r2), some (.int v8), some (.int u18), some (.int v15), some (.int u22), some (.int u25), some (.int v55)] [.int v77, .int (v62 ^^^ v70), .ref q] (zqV B M [(9, 3)])
                        refine zw_ixor (pc := 189) d_Units_narrowAt_189 ?_
                        refine zw_aload_n (pc := 190) (n := 0) (x := q) rfl d_Units_narrowAt_190 ?_
                        refine zc_getF hn76 (pc := 191) f_Units_20 rfl hqk r65f d_Units_narrowAt_191 ?_
                        refine zw_iload (pc := 194) (i := 8) (x := v55) rfl d_Units_narrowAt_194 ?_
                        refine zc_callV hn76 (pc := 196) [.int v55] [.int ((v62 ^^^ v70) ^^^ v77), .ref q] l_Units_57 (c_IntRow_at l B N73 (hT.mod hn76) r65 r65B (hn76.k r65k) v55) rfl rfl r65k (by decide) (by decide) (Nat.le_of_ble_eq_true rfl) d_Units_narrowAt_196 (fun r82 N80 hq81 => ?_)
                        obtain ⟨hk85, v84, rfl⟩ := hq81
                        have hn83 : zMod B [(9, 3)] M N80 := hn76.call hk85 (by decide)
                        show zW l m_Units_narrowAt (zn M + 0, zw M + 0) N80 199 [some (.ref q), some (.int x0), some (.ref r2), some (.int v8), some (.int u18), some (.int v15), some (.int u22), some (.int u25), some (.int v55)] [.int v84, .int ((v62 ^^^ v70) ^^^ v77), .ref q] (zqV B M [(9, 3)])
                        refine zw_ixor (pc := 199) d_Units_narrowAt_199 ?_
                        refine zc_callV hn83 (pc := 200) [.int (((v62 ^^^ v70) ^^^ v77) ^^^ v84)] [] l_Units_86 (c_Units_narrow l B N80 (hT.mod hn83) q hqB (hn83.k hqk) (((v62 ^^^ v70) ^^^ v77) ^^^ v84)) rfl rfl hqk (by decide) (by decide) (Nat.le_of_ble_eq_true rfl) d_Units_narrowAt_200 (fun r89 N87 hq88 => ?_)
                        obtain ⟨hk92, rfl⟩ := hq88
                        have hn90 : zMod B [(9, 3)] M N87 := hn83.call hk92 (by decide)
                        show zW l m_Units_narrowAt (zn M + 0, zw M + 0) N87 203 [some (.ref q), some (.int x0), some (.ref r2), some (.int v8), some (.int u18), some (.int v15), some (.int u22), some (.int u25), some (.int v55)] [] (zqV B M [(9, 3)])
                        refine zW_le [some (.ref q), some (.int x0), some (.ref r2), some (.int v8), some (.int u18), some (.int v15), some (.int u22), some (.int u25), none] (⟨rfl, rfl, rfl, rfl, rfl, rfl, rfl, rfl, trivial⟩) ?_
                        exact j_203 N87 hn90
              exact lp_120 _ 0 N23 hn24 (Nat.lt_succ_self _)
        exact lp_108 _ 0 N20 hn21 (Nat.lt_succ_self _)
      · refine zw_iload (pc := 42) (i := 5) (x := v15) rfl d_Units_narrowAt_42 ?_
        refine zw_iload (pc := 44) (i := 6) (x := u19) rfl d_Units_narrowAt_44 ?_
        refine zc_callS hn21 (pc := 46) [.int v15, .int u19] [] l_Units_69 (c_T_isIn l B N20 (hT.mod hn21) v15 u19) rfl rfl (by decide) (Nat.le_of_ble_eq_true rfl) d_Units_narrowAt_46 (fun r96 N94 hq95 => ?_)
        obtain ⟨hk99, v98, rfl, zv98⟩ := hq95
        have hn97 : zMod B [(9, 3)] M N94 := hn21.call hk99 (by decide)
        show zW l m_Units_narrowAt (zn M + 0, zw M + 0) N94 49 [some (.ref q), some (.int x0), some (.ref r2), some (.int v8), some (.int u18), some (.int v15), some (.int u19), none, none] [.int v98] (zqV B M [(9, 3)])
        have j_99 : ∀ (u101 : Int32) (N102 : zMem) (hn103 : zMod B [(9, 3)] M N102), zW l m_Units_narrowAt (zn M + 0, zw M + 0) N102 99 [some (.ref q), some (.int x0), some (.ref r2), some (.int v8), some (.int u101), some (.int v15), some (.int u19), none, none] [] (zqV B M [(9, 3)]) := by
          intro u101 N102 hn103
          refine zw_iinc (pc := 99) (i := 6) (x := u19) (v := u19 + Int32.ofInt 1) (L2 := [some (.ref q), some (.int x0), some (.ref r2), some (.int v8), some (.int u101), some (.int v15), some (.int (u19 + Int32.ofInt 1)), none, none]) rfl rfl (by decide) rfl d_Units_narrowAt_99 ?_
          refine zw_goto (pc := 102) (tgt := 33) (by decide) d_Units_narrowAt_102 ?_
          exact ih_33 u101 (u19 + Int32.ofInt 1) N102 hn103 (Nat.lt_of_lt_of_le (z_up hc_39) (Nat.le_of_lt_succ hlt_33))
        refine zw_if_eq (pc := 49) (tgt := 99) (by decide) d_Units_narrowAt_49 (fun hc_49 => ?_) (fun hc_49 => ?_)
        · exact j_99 u18 N94 hn97
        · refine zw_aload_n (pc := 52) (n := 2) (x := r2) rfl d_Units_narrowAt_52 ?_
          refine zw_iload_n (pc := 53) (n := 3) (x := v8) rfl d_Units_narrowAt_53 ?_
          refine zw_iload (pc := 54) (i := 6) (x := u19) rfl d_Units_narrowAt_54 ?_
          refine zc_callV hn97 (pc := 56) [.int v8, .int u19] [] l_Units_73 (c_Group_leastOfCoset l B N94 (hT.mod hn97) r2 r2B (hn97.k r2k) v8 u19) rfl rfl r2k (by decide) (by decide) (Nat.le_of_ble_eq_true rfl) d_Units_narrowAt_56 (fun r106 N104 hq105 => ?_)
          obtain ⟨hk109, v108, rfl⟩ := hq105
          have hn107 : zMod B [(9, 3)] M N104 := hn97.call hk109 (by decide)
          show zW l m_Units_narrowAt (zn M + 0, zw M + 0) N104 59 [some (.ref q), some (.int x0), some (.ref r2), some (.int v8), some (.int u18), some (.int v15), some (.int u19), none, none] [.int v108] (zqV B M [(9, 3)])
          refine zw_iload (pc := 59) (i := 6) (x := u19) rfl d_Units_narrowAt_59 ?_
          refine zw_icmp_ne (pc := 61) (tgt := 99) (by decide) d_Units_narrowAt_61 (fun hc_61 => ?_) (fun hc_61 => ?_)
          · exact j_99 u18 N104 hn107
          · refine zw_iload (pc := 64) (i := 4) (x := u18) rfl d_Units_narrowAt_64 ?_
            refine zw_iconst (pc := 66) (v := 1) (by decide) d_Units_narrowAt_66 ?_
            refine zw_iload (pc := 67) (i := 6) (x := u19) rfl d_Units_narrowAt_67 ?_
            refine zw_ishl (pc := 69) d_Units_narrowAt_69 ?_
            refine zw_ior (pc := 70) d_Units_narrowAt_70 ?_
            refine zw_istore (pc := 71) (i := 4) (L2 := [some (.ref q), some (.int x0), some (.ref r2), some (.int v8), some (.int (u18 ||| (1 <<< (u19 &&& 31)))), some (.int v15), some (.int u19), none, none]) (by decide) rfl d_Units_narrowAt_71 ?_
            refine zw_aload_n (pc := 73) (n := 0) (x := q) rfl d_Units_narrowAt_73 ?_
            obtain ⟨r111, r111f, r111B, r111k⟩ := hT.1 q 9 2 hqB hqk (by decide) (by decide) rfl
            refine zc_getF hn107 (pc := 74) f_Units_20 rfl hqk r111f d_Units_narrowAt_74 ?_
            refine zw_iload (pc := 77) (i := 6) (x := u19) rfl d_Units_narrowAt_77 ?_
            refine zw_aload_n (pc := 79) (n := 0) (x := q) rfl d_Units_narrowAt_79 ?_
            refine zw_aload_n (pc := 80) (n := 0) (x := q) rfl d_Units_narrowAt_80 ?_
            refine zc_getF hn107 (pc := 81) f_Units_23 rfl hqk r1f d_Units_narrowAt_81 ?_
            refine zw_iload_n (pc := 84) (n := 3) (x := v8) rfl d_Units_narrowAt_84 ?_
            refine zw_iconst (pc := 85) (v := 1) (by decide) d_Units_narrowAt_85 ?_
            refine zw_iload (pc := 86) (i := 6) (x := u19) rfl d_Units_narrowAt_86 ?_
            refine zw_ishl (pc := 88) d_Units_narrowAt_88 ?_
            refine zw_ior (pc := 89) d_Units_narrowAt_89 ?_
            refine zc_callV hn107 (pc := 90) [.int (v8 ||| (1 <<< (u19 &&& 31)))] [.ref q, .int u19, .ref r111] l_Units_77 (c_Sorts_spannedSort l B N104 (hT.mod hn107) r1 r1B (hn107.k r1k) (v8 ||| (1 <<< (u19 &&& 31)))) rfl rfl r1k (by decide) (by decide) (Nat.le_of_ble_eq_true rfl) d_Units_narrowAt_90 (fun r114 N112 hq113 => ?_)
            obtain ⟨hk117, v116, rfl⟩ := hq113
            have hn115 : zMod B [(9, 3)] M N112 := hn107.call hk117 (by decide)
            show zW l m_Units_narrowAt (zn M + 0, zw M + 0) N112 93 [some (.ref q), some (.int x0), some (.ref r2), some (.int v8), some (.int (u18 ||| (1 <<< (u19 &&& 31)))), some (.int v15), some (.int u19), none, none] [.int v116, .ref q, .int u19, .ref r111] (zqV B M [(9, 3)])
            refine zc_callV hn115 (pc := 93) [.int v116] [.int u19, .ref r111] l_Units_80 (c_Units_bitOf l B N112 (hT.mod hn115) q hqB (hn115.k hqk) v116) rfl rfl hqk (by decide) (by decide) (Nat.le_of_ble_eq_true rfl) d_Units_narrowAt_93 (fun r121 N119 hq120 => ?_)
            obtain ⟨hk124, v123, rfl⟩ := hq120
            have hn122 : zMod B [(9, 3)] M N119 := hn115.call hk124 (by decide)
            show zW l m_Units_narrowAt (zn M + 0, zw M + 0) N119 96 [some (.ref q), some (.int x0), some (.ref r2), some (.int v8), some (.int (u18 ||| (1 <<< (u19 &&& 31)))), some (.int v15), some (.int u19), none, none] [.int v123, .int u19, .ref r111] (zqV B M [(9, 3)])
            refine zc_callV hn122 (pc := 96) [.int u19, .int v123] [] l_Units_40 (c_IntRow_put l B N119 (hT.mod hn122) r111 r111B (hn122.k r111k) u19 v123) rfl rfl r111k (by decide) (by decide) (Nat.le_of_ble_eq_true rfl) d_Units_narrowAt_96 (fun r128 N126 hq127 => ?_)
            obtain ⟨hk131, rfl⟩ := hq127
            have hn129 : zMod B [(9, 3)] M N126 := hn122.call hk131 (by decide)
            show zW l m_Units_narrowAt (zn M + 0, zw M + 0) N126 99 [some (.ref q), some (.int x0), some (.ref r2), some (.int v8), some (.int (u18 ||| (1 <<< (u19 &&& 31)))), some (.int v15), some (.int u19), none, none] [] (zqV B M [(9, 3)])
            exact j_99 (u18 ||| (1 <<< (u19 &&& 31))) N126 hn129
  exact lp_33 _ 0 0 N11 hn14 (Nat.lt_succ_self _)
set_option maxHeartbeats 4000000 in
theorem c_Units_straighten (l : Launch) (B : Nat) (M : zMem) (hT : zTy B M) (q : Nat) (hqB : q < B) (hqk : (zsh M q).1 = 9 + 3) : zC l m_Units_straighten 0 0 [.ref q] M (zqV B M []) := by
  refine zC_of (L0 := [some (.ref q), none, none, none, none, none]) md_Units_straighten (Nat.le_of_ble_eq_true rfl) rfl ?_ zQ0
  have hm : zMod B [] M M := zMod.rf
  refine zw_iconst (pc := 0) (v := 0) (by decide) d_Units_straighten_0 ?_
  refine zw_istore_n (pc := 1) (i := 1) (L2 := [some (.ref q), some (.int 0), none, none, none, none]) rfl (by decide) rfl d_Units_straighten_1 ?_
  refine zw_iconst (pc := 2) (v := 0) (by decide) d_Units_straighten_2 ?_
  refine zw_istore_n (pc := 3) (i := 2) (L2 := [some (.ref q), some (.int 0), some (.int 0), none, none, none]) rfl (by decide) rfl d_Units_straighten_3 ?_
  obtain ⟨r5, r5f, r5B, r5k⟩ := hT.1 q 9 0 hqB hqk (by decide) (by decide) rfl
  have lp_4 : ∀ (n : Nat) (u1 : Int32) (u2 : Int32) (N3 : zMem) (hn4 : zMod B [] M N3), zvu u2 (zi M r5 7) < n → zW l m_Units_straighten (zn M + 0, zw M + 0) N3 4 [some (.ref q), some (.int u1), some (.int u2), none, none, none] [] (zqV B M []) := by
    intro n
    induction n with
    | zero =>
      intro u1 u2 N3 hn4 h0
      exact absurd h0 (Nat.not_lt_zero _)
    | succ n ih_4 =>
      intro u1 u2 N3 hn4 hlt_4
      refine zw_iload_n (pc := 4) (n := 2) (x := u2) rfl d_Units_straighten_4 ?_
      refine zw_aload_n (pc := 5) (n := 0) (x := q) rfl d_Units_straighten_5 ?_
      refine zc_getF hn4 (pc := 6) f_Units_23 rfl hqk r5f d_Units_straighten_6 ?_
      refine zc_getI0 hn4 (pc := 9) (by decide) f_Units_35 rfl r5k d_Units_straighten_9 ?_
      refine zw_icmp_ge (pc := 12) (tgt := 167) (by decide) d_Units_straighten_12 (fun hc_12 => ?_) (fun hc_12 => ?_)
      · exact zw_vret (S := []) (pc := 167) rfl d_Units_straighten_167 ⟨hn4, rfl⟩
      · refine zw_iload_n (pc := 15) (n := 1) (x := u1) rfl d_Units_straighten_15 ?_
        refine zw_istore_n (pc := 16) (i := 3) (L2 := [some (.ref q), some (.int u1), some (.int u2), some (.int u1), none, none]) rfl (by decide) rfl d_Units_straighten_16 ?_
        have lp_17 : ∀ (n : Nat) (u6 : Int32) (N7 : zMem) (hn8 : zMod B [] M N7), zvu u6 (zi M q 3) < n → zW l m_Units_straighten (zn M + 0, zw M + 0) N7 17 [some (.ref q), some (.int u1), some (.int u2), some (.int u6), none, none] [] (zqV B M []) := by
          intro n
          induction n with
          | zero =>
            intro u6 N7 hn8 h0
            exact absurd h0 (Nat.not_lt_zero _)
          | succ n ih_17 =>
            intro u6 N7 hn8 hlt_17
            refine zw_iload_n (pc := 17) (n := 3) (x := u6) rfl d_Units_straighten_17 ?_
            refine zw_aload_n (pc := 18) (n := 0) (x := q) rfl d_Units_straighten_18 ?_
            refine zc_getI0 hn8 (pc := 19) (by decide) f_Units_31 rfl hqk d_Units_straighten_19 ?_
            have j_48 : ∀ (N9 : zMem) (hn10 : zMod B [] M N9), zW l m_Units_straighten (zn M + 0, zw M + 0) N9 48 [some (.ref q), some (.int u1), some (.int u2), some (.int u6), none, none] [] (zqV B M []) := by
              intro N9 hn10
              refine zw_iload_n (pc := 48) (n := 3) (x := u6) rfl d_Units_straighten_48 ?_
              refine zw_aload_n (pc := 49) (n := 0) (x := q) rfl d_Units_straighten_49 ?_
              refine zc_getI0 hn10 (pc := 50) (by decide) f_Units_31 rfl hqk d_Units_straighten_50 ?_
              have j_161 : ∀ (u11 : Int32) (N12 : zMem) (hn13 : zMod B [] M N12), zW l m_Units_straighten (zn M + 0, zw M + 0) N12 161 [some (.ref q), some (.int u11), some (.int u2), some (.int u6), none, none] [] (zqV B M []) := by
                intro u11 N12 hn13
                refine zw_iinc (pc := 161) (i := 2) (x := u2) (v := u2 + Int32.ofInt 1) (L2 := [some (.ref q), some (.int u11), some (.int (u2 + Int32.ofInt 1)), some (.int u6), none, none]) rfl rfl (by decide) rfl d_Units_straighten_161 ?_
                refine zw_goto (pc := 164) (tgt := 4) (by decide) d_Units_straighten_164 ?_
                refine zW_le [some (.ref q), some (.int u11), some (.int (u2 + Int32.ofInt 1)), none, none, none] (⟨rfl, rfl, rfl, trivial⟩) ?_
                exact ih_4 u11 (u2 + Int32.ofInt 1) N12 hn13 (Nat.lt_of_lt_of_le (z_up hc_12) (Nat.le_of_lt_succ hlt_4))
              refine zw_icmp_lt (pc := 53) (tgt := 59) (by decide) d_Units_straighten_53 (fun hc_53 => ?_) (fun hc_53 => ?_)
              · refine zw_aload_n (pc := 59) (n := 0) (x := q) rfl d_Units_straighten_59 ?_
                obtain ⟨r14, r14f, r14B, r14k⟩ := hT.1 q 9 1 hqB hqk (by decide) (by decide) rfl
                refine zc_getF hn10 (pc := 60) f_Units_14 rfl hqk r14f d_Units_straighten_60 ?_
                refine zw_iload_n (pc := 63) (n := 3) (x := u6) rfl d_Units_straighten_63 ?_
                refine zc_callV hn10 (pc := 64) [.int u6] [] l_Units_57 (c_IntRow_at l B N9 (hT.mod hn10) r14 r14B (hn10.k r14k) u6) rfl rfl r14k (by decide) (by decide) (Nat.le_of_ble_eq_true rfl) d_Units_straighten_64 (fun r17 N15 hq16 => ?_)
                obtain ⟨hk20, v19, rfl⟩ := hq16
                have hn18 : zMod B [] M N15 := hn10.call hk20 (by decide)
                show zW l m_Units_straighten (zn M + 0, zw M + 0) N15 67 [some (.ref q), some (.int u1), some (.int u2), some (.int u6), none, none] [.int v19] (zqV B M [])
                refine zw_istore (pc := 67) (i := 4) (L2 := [some (.ref q), some (.int u1), some (.int u2), some (.int u6), some (.int v19), none]) (by decide) rfl d_Units_straighten_67 ?_
                refine zw_aload_n (pc := 69) (n := 0) (x := q) rfl d_Units_straighten_69 ?_
                refine zc_getF hn18 (pc := 70) f_Units_14 rfl hqk r14f d_Units_straighten_70 ?_
                refine zw_iload_n (pc := 73) (n := 3) (x := u6) rfl d_Units_straighten_73 ?_
                refine zw_aload_n (pc := 74) (n := 0) (x := q) rfl d_Units_straighten_74 ?_
                refine zc_getF hn18 (pc := 75) f_Units_14 rfl hqk r14f d_Units_straighten_75 ?_
                refine zw_iload_n (pc := 78) (n := 1) (x := u1) rfl d_Units_straighten_78 ?_
                refine zc_callV hn18 (pc := 79) [.int u1] [.int u6, .ref r14] l_Units_57 (c_IntRow_at l B N15 (hT.mod hn18) r14 r14B (hn18.k r14k) u1) rfl rfl r14k (by decide) (by decide) (Nat.le_of_ble_eq_true rfl) d_Units_straighten_79 (fun r24 N22 hq23 => ?_)
                obtain ⟨hk27, v26, rfl⟩ := hq23
                have hn25 : zMod B [] M N22 := hn18.call hk27 (by decide)
                show zW l m_Units_straighten (zn M + 0, zw M + 0) N22 82 [some (.ref q), some (.int u1), some (.int u2), some (.int u6), some (.int v19), none] [.int v26, .int u6, .ref r14] (zqV B M [])
                refine zc_callV hn25 (pc := 82) [.int u6, .int v26] [] l_Units_40 (c_IntRow_put l B N22 (hT.mod hn25) r14 r14B (hn25.k r14k) u6 v26) rfl rfl r14k (by decide) (by decide) (Nat.le_of_ble_eq_true rfl) d_Units_straighten_82 (fun r31 N29 hq30 => ?_)
                obtain ⟨hk34, rfl⟩ := hq30
                have hn32 : zMod B [] M N29 := hn25.call hk34 (by decide)
                show zW l m_Units_straighten (zn M + 0, zw M + 0) N29 85 [some (.ref q), some (.int u1), some (.int u2), some (.int u6), some (.int v19), none] [] (zqV B M [])
                refine zw_aload_n (pc := 85) (n := 0) (x := q) rfl d_Units_straighten_85 ?_
                refine zc_getF hn32 (pc := 86) f_Units_14 rfl hqk r14f d_Units_straighten_86 ?_
                refine zw_iload_n (pc := 89) (n := 1) (x := u1) rfl d_Units_straighten_89 ?_
                refine zw_iload (pc := 90) (i := 4) (x := v19) rfl d_Units_straighten_90 ?_
                refine zc_callV hn32 (pc := 92) [.int u1, .int v19] [] l_Units_40 (c_IntRow_put l B N29 (hT.mod hn32) r14 r14B (hn32.k r14k) u1 v19) rfl rfl r14k (by decide) (by decide) (Nat.le_of_ble_eq_true rfl) d_Units_straighten_92 (fun r38 N36 hq37 => ?_)
                obtain ⟨hk41, rfl⟩ := hq37
                have hn39 : zMod B [] M N36 := hn32.call hk41 (by decide)
                show zW l m_Units_straighten (zn M + 0, zw M + 0) N36 95 [some (.ref q), some (.int u1), some (.int u2), some (.int u6), some (.int v19), none] [] (zqV B M [])
                refine zw_iconst (pc := 95) (v := 0) (by decide) d_Units_straighten_95 ?_
                refine zw_istore (pc := 96) (i := 5) (L2 := [some (.ref q), some (.int u1), some (.int u2), some (.int u6), some (.int v19), some (.int 0)]) (by decide) rfl d_Units_straighten_96 ?_
                have lp_98 : ∀ (n : Nat) (u43 : Int32) (N44 : zMem) (hn45 : zMod B [] M N44), zvu u43 (zi M q 3) < n → zW l m_Units_straighten (zn M + 0, zw M + 0) N44 98 [some (.ref q), some (.int u1), some (.int u2), some (.int u6), some (.int v19), some (.int u43)] [] (zqV B M []) := by
                  intro n
                  induction n with
                  | zero =>
                    intro u43 N44 hn45 h0
                    exact absurd h0 (Nat.not_lt_zero _)
                  | succ n ih_98 =>
                    intro u43 N44 hn45 hlt_98
                    refine zw_iload (pc := 98) (i := 5) (x := u43) rfl d_Units_straighten_98 ?_
                    refine zw_aload_n (pc := 100) (n := 0) (x := q) rfl d_Units_straighten_100 ?_
                    refine zc_getI0 hn45 (pc := 101) (by decide) f_Units_31 rfl hqk d_Units_straighten_101 ?_
                    refine zw_icmp_ge (pc := 104) (tgt := 158) (by decide) d_Units_straighten_104 (fun hc_104 => ?_) (fun hc_104 => ?_)
                    · refine zw_iinc (pc := 158) (i := 1) (x := u1) (v := u1 + Int32.ofInt 1) (L2 := [some (.ref q), some (.int (u1 + Int32.ofInt 1)), some (.int u2), some (.int u6), some (.int v19), some (.int u43)]) rfl rfl (by decide) rfl d_Units_straighten_158 ?_
                      refine zW_le [some (.ref q), some (.int (u1 + Int32.ofInt 1)), some (.int u2), some (.int u6), none, none] (⟨rfl, rfl, rfl, rfl, trivial⟩) ?_
                      exact j_161 (u1 + Int32.ofInt 1) N44 hn45
                    · refine zw_iload (pc := 107) (i := 5) (x := u43) rfl d_Units_straighten_107 ?_
                      refine zw_iload_n (pc := 109) (n := 1) (x := u1) rfl d_Units_straighten_109 ?_
                      have j_152 : ∀ (N46 : zMem) (hn47 : zMod B [] M N46), zW l m_Units_straighten (zn M + 0, zw M + 0) N46 152 [some (.ref q), some (.int u1), some (.int u2), some (.int u6), some (.int v19), some (.int u43)] [] (zqV B M []) := by
                        intro N46 hn47
                        refine zw_iinc (pc := 152) (i := 5) (x := u43) (v := u43 + Int32.ofInt 1) (L2 := [some (.ref q), some (.int u1), some (.int u2), some (.int u6), some (.int v19), some (.int (u43 + Int32.ofInt 1))]) rfl rfl (by decide) rfl d_Units_straighten_152 ?_
                        refine zw_goto (pc := 155) (tgt := 98) (by decide) d_Units_straighten_155 ?_
                        exact ih_98 (u43 + Int32.ofInt 1) N46 hn47 (Nat.lt_of_lt_of_le (z_up hc_104) (Nat.le_of_lt_succ hlt_98))
                      refine zw_icmp_eq (pc := 110) (tgt := 152) (by decide) d_Units_straighten_110 (fun hc_110 => ?_) (fun hc_110 => ?_)
                      · exact j_152 N44 hn45
                      · refine zw_aload_n (pc := 113) (n := 0) (x := q) rfl d_Units_straighten_113 ?_
                        refine zc_getF hn45 (pc := 114) f_Units_14 rfl hqk r14f d_Units_straighten_114 ?_
                        refine zw_iload (pc := 117) (i := 5) (x := u43) rfl d_Units_straighten_117 ?_
                        refine zc_callV hn45 (pc := 119) [.int u43] [] l_Units_57 (c_IntRow_at l B N44 (hT.mod hn45) r14 r14B (hn45.k r14k) u43) rfl rfl r14k (by decide) (by decide) (Nat.le_of_ble_eq_true rfl) d_Units_straighten_119 (fun r50 N48 hq49 => ?_)
                        obtain ⟨hk53, v52, rfl⟩ := hq49
                        have hn51 : zMod B [] M N48 := hn45.call hk53 (by decide)
                        show zW l m_Units_straighten (zn M + 0, zw M + 0) N48 122 [some (.ref q), some (.int u1), some (.int u2), some (.int u6), some (.int v19), some (.int u43)] [.int v52] (zqV B M [])
                        refine zw_aload_n (pc := 122) (n := 0) (x := q) rfl d_Units_straighten_122 ?_
                        refine zw_iload_n (pc := 123) (n := 2) (x := u2) rfl d_Units_straighten_123 ?_
                        refine zc_callV hn51 (pc := 124) [.int u2] [.int v52] l_Units_80 (c_Units_bitOf l B N48 (hT.mod hn51) q hqB (hn51.k hqk) u2) rfl rfl hqk (by decide) (by decide) (Nat.le_of_ble_eq_true rfl) d_Units_straighten_124 (fun r57 N55 hq56 => ?_)
                        obtain ⟨hk60, v59, rfl⟩ := hq56
                        have hn58 : zMod B [] M N55 := hn51.call hk60 (by decide)
                        show zW l m_Units_straighten (zn M + 0, zw M + 0) N55 127 [some (.ref q), some (.int u1), some (.int u2), some (.int u6), some (.int v19), some (.int u43)] [.int v59, .int v52] (zqV B M [])
                        refine zw_iand (pc := 127) d_Units_straighten_127 ?_
                        refine zw_if_eq (pc := 128) (tgt := 152) (by decide) d_Units_straighten_128 (fun hc_128 => ?_) (fun hc_128 => ?_)
                        · exact j_152 N55 hn58
                        · refine zw_aload_n (pc := 131) (n := 0) (x := q) rfl d_Units_straighten_131 ?_
                          refine zc_getF hn58 (pc := 132) f_Units_14 rfl hqk r14f d_Units_straighten_132 ?_
                          refine zw_iload (pc := 135) (i := 5) (x := u43) rfl d_Units_straighten_135 ?_
                          refine zw_aload_n (pc := 137) (n := 0) (x := q) rfl d_Units_straighten_137 ?_
                          refine zc_getF hn58 (pc := 138) f_Units_14 rfl hqk r14f d_Units_straighten_138 ?_
                          refine zw_iload (pc := 141) (i := 5) (x := u43) rfl d_Units_straighten_141 ?_
                          refine zc_callV hn58 (pc := 143) [.int u43] [.int u43, .ref r14] l_Units_57 (c_IntRow_at l B N55 (hT.mod hn58) r14 r14B (hn58.k r14k) u43) rfl rfl r14k (by decide) (by decide) (Nat.le_of_ble_eq_true rfl) d_Units_straighten_143 (fun r64 N62 hq63 => ?_)
                          obtain ⟨hk67, v66, rfl⟩ := hq63
                          have hn65 : zMod B [] M N62 := hn58.call hk67 (by decide)
                          show zW l m_Units_straighten (zn M + 0, zw M + 0) N62 146 [some (.ref q), some (.int u1), some (.int u2), some (.int u6), some (.int v19), some (.int u43)] [.int v66, .int u43, .ref r14] (zqV B M [])
                          refine zw_iload (pc := 146) (i := 4) (x := v19) rfl d_Units_straighten_146 ?_
                          refine zw_ixor (pc := 148) d_Units_straighten_148 ?_
                          refine zc_callV hn65 (pc := 149) [.int u43, .int (v66 ^^^ v19)] [] l_Units_40 (c_IntRow_put l B N62 (hT.mod hn65) r14 r14B (hn65.k r14k) u43 (v66 ^^^ v19)) rfl rfl r14k (by decide) (by decide) (Nat.le_of_ble_eq_true rfl) d_Units_straighten_149 (fun r71 N69 hq70 => ?_)
                          obtain ⟨hk74, rfl⟩ := hq70
                          have hn72 : zMod B [] M N69 := hn65.call hk74 (by decide)
                          show zW l m_Units_straighten (zn M + 0, zw M + 0) N69 152 [some (.ref q), some (.int u1), some (.int u2), some (.int u6), some (.int v19), some (.int u43)] [] (zqV B M [])
                          exact j_152 N69 hn72
                exact lp_98 _ 0 N36 hn39 (Nat.lt_succ_self _)
              · refine zw_goto (pc := 56) (tgt := 161) (by decide) d_Units_straighten_56 ?_
                exact j_161 u1 N9 hn10
            refine zw_icmp_ge (pc := 22) (tgt := 48) (by decide) d_Units_straighten_22 (fun hc_22 => ?_) (fun hc_22 => ?_)
            · exact j_48 N7 hn8
            · refine zw_aload_n (pc := 25) (n := 0) (x := q) rfl d_Units_straighten_25 ?_
              obtain ⟨r76, r76f, r76B, r76k⟩ := hT.1 q 9 1 hqB hqk (by decide) (by decide) rfl
              refine zc_getF hn8 (pc := 26) f_Units_14 rfl hqk r76f d_Units_straighten_26 ?_
              refine zw_iload_n (pc := 29) (n := 3) (x := u6) rfl d_Units_straighten_29 ?_
              refine zc_callV hn8 (pc := 30) [.int u6] [] l_Units_57 (c_IntRow_at l B N7 (hT.mod hn8) r76 r76B (hn8.k r76k) u6) rfl rfl r76k (by decide) (by decide) (Nat.le_of_ble_eq_true rfl) d_Units_straighten_30 (fun r79 N77 hq78 => ?_)
              obtain ⟨hk82, v81, rfl⟩ := hq78
              have hn80 : zMod B [] M N77 := hn8.call hk82 (by decide)
              show zW l m_Units_straighten (zn M + 0, zw M + 0) N77 33 [some (.ref q), some (.int u1), some (.int u2), some (.int u6), none, none] [.int v81] (zqV B M [])
              refine zw_aload_n (pc := 33) (n := 0) (x := q) rfl d_Units_straighten_33 ?_
              refine zw_iload_n (pc := 34) (n := 2) (x := u2) rfl d_Units_straighten_34 ?_
              refine zc_callV hn80 (pc := 35) [.int u2] [.int v81] l_Units_80 (c_Units_bitOf l B N77 (hT.mod hn80) q hqB (hn80.k hqk) u2) rfl rfl hqk (by decide) (by decide) (Nat.le_of_ble_eq_true rfl) d_Units_straighten_35 (fun r86 N84 hq85 => ?_)
              obtain ⟨hk89, v88, rfl⟩ := hq85
              have hn87 : zMod B [] M N84 := hn80.call hk89 (by decide)
              show zW l m_Units_straighten (zn M + 0, zw M + 0) N84 38 [some (.ref q), some (.int u1), some (.int u2), some (.int u6), none, none] [.int v88, .int v81] (zqV B M [])
              refine zw_iand (pc := 38) d_Units_straighten_38 ?_
              refine zw_if_ne (pc := 39) (tgt := 48) (by decide) d_Units_straighten_39 (fun hc_39 => ?_) (fun hc_39 => ?_)
              · exact j_48 N84 hn87
              · refine zw_iinc (pc := 42) (i := 3) (x := u6) (v := u6 + Int32.ofInt 1) (L2 := [some (.ref q), some (.int u1), some (.int u2), some (.int (u6 + Int32.ofInt 1)), none, none]) rfl rfl (by decide) rfl d_Units_straighten_42 ?_
                refine zw_goto (pc := 45) (tgt := 17) (by decide) d_Units_straighten_45 ?_
                exact ih_17 (u6 + Int32.ofInt 1) N84 hn87 (Nat.lt_of_lt_of_le (z_up hc_22) (Nat.le_of_lt_succ hlt_17))
        exact lp_17 _ u1 N3 hn4 (Nat.lt_succ_self _)
  exact lp_4 _ 0 0 M hm (Nat.lt_succ_self _)
set_option maxHeartbeats 4000000 in
theorem c_Units_seek (l : Launch) (B : Nat) (M : zMem) (hT : zTy B M) (q : Nat) (hqB : q < B) (hqk : (zsh M q).1 = 9 + 3) : zC l m_Units_seek 0 0 [.ref q] M (zqV B M [(9, 3), (9, 4)]) := by
  refine zC_of (L0 := [some (.ref q), none]) md_Units_seek (Nat.le_of_ble_eq_true rfl) rfl ?_ zQ0
  have hm : zMod B [(9, 3), (9, 4)] M M := zMod.rf
  refine zw_aload_n (pc := 0) (n := 0) (x := q) rfl d_Units_seek_0 ?_
  refine zc_getI hm (pc := 1) f_Units_27 rfl hqk d_Units_seek_1 ?_
  refine zw_if_eq (pc := 4) (tgt := 8) (by decide) d_Units_seek_4 (fun hc_4 => ?_) (fun hc_4 => ?_)
  · refine zw_aload_n (pc := 8) (n := 0) (x := q) rfl d_Units_seek_8 ?_
    refine zw_iconst (pc := 9) (v := 1) (by decide) d_Units_seek_9 ?_
    refine zc_putI hm (pc := 10) f_Units_27 rfl rfl hqk hqB (by decide) (z_narZ (Or.inr rfl)) (z_fitZ (Or.inr rfl)) d_Units_seek_10 (fun N1 hN1 hn2 => ?_)
    refine zw_aload_n (pc := 13) (n := 0) (x := q) rfl d_Units_seek_13 ?_
    refine zw_aload_n (pc := 14) (n := 0) (x := q) rfl d_Units_seek_14 ?_
    obtain ⟨r3, r3f, r3B, r3k⟩ := hT.1 q 9 0 hqB hqk (by decide) (by decide) rfl
    refine zc_getF hn2 (pc := 15) f_Units_23 rfl hqk r3f d_Units_seek_15 ?_
    refine zc_getI0 hn2 (pc := 18) (by decide) f_Units_35 rfl r3k d_Units_seek_18 ?_
    refine zc_putI hn2 (pc := 21) f_Units_31 rfl rfl hqk hqB (by decide) rfl rfl d_Units_seek_21 (fun N4 hN4 hn5 => ?_)
    refine zw_iconst (pc := 24) (v := 0) (by decide) d_Units_seek_24 ?_
    refine zw_istore_n (pc := 25) (i := 1) (L2 := [some (.ref q), some (.int 0)]) rfl (by decide) rfl d_Units_seek_25 ?_
    have lp_26 : ∀ (n : Nat) (u6 : Int32) (N7 : zMem) (hn8 : zMod B [(9, 3), (9, 4)] M N7), zvu u6 (zi M r3 7) < n → zW l m_Units_seek (zn M + 0, zw M + 0) N7 26 [some (.ref q), some (.int u6)] [] (zqV B M [(9, 3), (9, 4)]) := by
      intro n
      induction n with
      | zero =>
        intro u6 N7 hn8 h0
        exact absurd h0 (Nat.not_lt_zero _)
      | succ n ih_26 =>
        intro u6 N7 hn8 hlt_26
        refine zw_iload_n (pc := 26) (n := 1) (x := u6) rfl d_Units_seek_26 ?_
        refine zw_aload_n (pc := 27) (n := 0) (x := q) rfl d_Units_seek_27 ?_
        refine zc_getF hn8 (pc := 28) f_Units_23 rfl hqk r3f d_Units_seek_28 ?_
        refine zc_getI0 hn8 (pc := 31) (by decide) f_Units_35 rfl r3k d_Units_seek_31 ?_
        refine zw_icmp_ge (pc := 34) (tgt := 54) (by decide) d_Units_seek_34 (fun hc_34 => ?_) (fun hc_34 => ?_)
        · refine zw_iconst (pc := 54) (v := 0) (by decide) d_Units_seek_54 ?_
          refine zw_istore_n (pc := 55) (i := 1) (L2 := [some (.ref q), some (.int 0)]) rfl (by decide) rfl d_Units_seek_55 ?_
          have lp_56 : ∀ (n : Nat) (u9 : Int32) (N10 : zMem) (hn11 : zMod B [(9, 3), (9, 4)] M N10), zvu u9 (zi M r3 7) < n → zW l m_Units_seek (zn M + 0, zw M + 0) N10 56 [some (.ref q), some (.int u9)] [] (zqV B M [(9, 3), (9, 4)]) := by
            intro n
            induction n with
            | zero =>
              intro u9 N10 hn11 h0
              exact absurd h0 (Nat.not_lt_zero _)
            | succ n ih_56 =>
              intro u9 N10 hn11 hlt_56
              refine zw_iload_n (pc := 56) (n := 1) (x := u9) rfl d_Units_seek_56 ?_
              refine zw_aload_n (pc := 57) (n := 0) (x := q) rfl d_Units_seek_57 ?_
              refine zc_getF hn11 (pc := 58) f_Units_23 rfl hqk r3f d_Units_seek_58 ?_
              refine zc_getI0 hn11 (pc := 61) (by decide) f_Units_35 rfl r3k d_Units_seek_61 ?_
              refine zw_icmp_ge (pc := 64) (tgt := 78) (by decide) d_Units_seek_64 (fun hc_64 => ?_) (fun hc_64 => ?_)
              · refine zw_aload_n (pc := 78) (n := 0) (x := q) rfl d_Units_seek_78 ?_
                refine zc_callV hn11 (pc := 79) [] [] l_Units_47 (c_Units_straighten l B N10 (hT.mod hn11) q hqB (hn11.k hqk)) rfl rfl hqk (by decide) (by decide) (Nat.le_of_ble_eq_true rfl) d_Units_seek_79 (fun r14 N12 hq13 => ?_)
                obtain ⟨hk17, rfl⟩ := hq13
                have hn15 : zMod B [(9, 3), (9, 4)] M N12 := hn11.call hk17 (by decide)
                show zW l m_Units_seek (zn M + 0, zw M + 0) N12 82 [some (.ref q), some (.int u9)] [] (zqV B M [(9, 3), (9, 4)])
                exact zw_vret (S := []) (pc := 82) rfl d_Units_seek_82 ⟨hn15, rfl⟩
              · refine zw_aload_n (pc := 67) (n := 0) (x := q) rfl d_Units_seek_67 ?_
                refine zw_iload_n (pc := 68) (n := 1) (x := u9) rfl d_Units_seek_68 ?_
                refine zc_callV hn11 (pc := 69) [.int u9] [] l_Units_44 (c_Units_narrowAt l B N10 (hT.mod hn11) q hqB (hn11.k hqk) u9) rfl rfl hqk (by decide) (by decide) (Nat.le_of_ble_eq_true rfl) d_Units_seek_69 (fun r21 N19 hq20 => ?_)
                obtain ⟨hk24, rfl⟩ := hq20
                have hn22 : zMod B [(9, 3), (9, 4)] M N19 := hn11.call hk24 (by decide)
                show zW l m_Units_seek (zn M + 0, zw M + 0) N19 72 [some (.ref q), some (.int u9)] [] (zqV B M [(9, 3), (9, 4)])
                refine zw_iinc (pc := 72) (i := 1) (x := u9) (v := u9 + Int32.ofInt 1) (L2 := [some (.ref q), some (.int (u9 + Int32.ofInt 1))]) rfl rfl (by decide) rfl d_Units_seek_72 ?_
                refine zw_goto (pc := 75) (tgt := 56) (by decide) d_Units_seek_75 ?_
                exact ih_56 (u9 + Int32.ofInt 1) N19 hn22 (Nat.lt_of_lt_of_le (z_up hc_64) (Nat.le_of_lt_succ hlt_56))
          exact lp_56 _ 0 N7 hn8 (Nat.lt_succ_self _)
        · refine zw_aload_n (pc := 37) (n := 0) (x := q) rfl d_Units_seek_37 ?_
          obtain ⟨r26, r26f, r26B, r26k⟩ := hT.1 q 9 1 hqB hqk (by decide) (by decide) rfl
          refine zc_getF hn8 (pc := 38) f_Units_14 rfl hqk r26f d_Units_seek_38 ?_
          refine zw_iload_n (pc := 41) (n := 1) (x := u6) rfl d_Units_seek_41 ?_
          refine zw_iconst (pc := 42) (v := 1) (by decide) d_Units_seek_42 ?_
          refine zw_iload_n (pc := 43) (n := 1) (x := u6) rfl d_Units_seek_43 ?_
          refine zw_ishl (pc := 44) d_Units_seek_44 ?_
          refine zc_callV hn8 (pc := 45) [.int u6, .int (1 <<< (u6 &&& 31))] [] l_Units_40 (c_IntRow_put l B N7 (hT.mod hn8) r26 r26B (hn8.k r26k) u6 (1 <<< (u6 &&& 31))) rfl rfl r26k (by decide) (by decide) (Nat.le_of_ble_eq_true rfl) d_Units_seek_45 (fun r29 N27 hq28 => ?_)
          obtain ⟨hk32, rfl⟩ := hq28
          have hn30 : zMod B [(9, 3), (9, 4)] M N27 := hn8.call hk32 (by decide)
          show zW l m_Units_seek (zn M + 0, zw M + 0) N27 48 [some (.ref q), some (.int u6)] [] (zqV B M [(9, 3), (9, 4)])
          refine zw_iinc (pc := 48) (i := 1) (x := u6) (v := u6 + Int32.ofInt 1) (L2 := [some (.ref q), some (.int (u6 + Int32.ofInt 1))]) rfl rfl (by decide) rfl d_Units_seek_48 ?_
          refine zw_goto (pc := 51) (tgt := 26) (by decide) d_Units_seek_51 ?_
          exact ih_26 (u6 + Int32.ofInt 1) N27 hn30 (Nat.lt_of_lt_of_le (z_up hc_34) (Nat.le_of_lt_succ hlt_26))
    exact lp_26 _ 0 N4 hn5 (Nat.lt_succ_self _)
  · exact zw_vret (S := []) (pc := 7) rfl d_Units_seek_7 ⟨hm, rfl⟩
set_option maxHeartbeats 4000000 in
theorem c_Units_total (l : Launch) (B : Nat) (M : zMem) (hT : zTy B M) (q : Nat) (hqB : q < B) (hqk : (zsh M q).1 = 9 + 3) : zC l m_Units_total 0 0 [.ref q] M (zqI B M []) := by
  refine zC_of (L0 := [some (.ref q)]) md_Units_total (Nat.le_of_ble_eq_true rfl) rfl ?_ zQ0
  have hm : zMod B [] M M := zMod.rf
  refine zw_iconst (pc := 0) (v := 1) (by decide) d_Units_total_0 ?_
  refine zw_aload_n (pc := 1) (n := 0) (x := q) rfl d_Units_total_1 ?_
  refine zc_getI0 hm (pc := 2) (by decide) f_Units_31 rfl hqk d_Units_total_2 ?_
  refine zw_ishl (pc := 5) d_Units_total_5 ?_
  exact zw_iret (S := []) (pc := 6) (ty := .int) rfl rfl d_Units_total_6 ⟨hm, _, rfl⟩
set_option maxHeartbeats 4000000 in
theorem c_T_units (l : Launch) (B : Nat) (M : zMem) (hT : zTy B M) (q : Nat) (hqB : q < B) (hqk : (zsh M q).1 = 0 + 3) : zC l m_T_units 0 0 [.ref q] M (zqI B M [(9, 3), (9, 4)]) := by
  refine zC_of (L0 := [some (.ref q)]) md_T_units (Nat.le_of_ble_eq_true rfl) rfl ?_ zQ0
  have hm : zMod B [(9, 3), (9, 4)] M M := zMod.rf
  refine zw_aload_n (pc := 0) (n := 0) (x := q) rfl d_T_units_0 ?_
  obtain ⟨r1, r1f, r1B, r1k⟩ := hT.1 q 0 2 hqB hqk (by decide) (by decide) rfl
  refine zc_getF hm (pc := 1) f_T_28 rfl hqk r1f d_T_units_1 ?_
  obtain ⟨r2, r2f, r2B, r2k⟩ := hT.1 r1 4 3 r1B r1k (by decide) (by decide) rfl
  refine zc_getF hm (pc := 4) f_T_227 rfl r1k r2f d_T_units_4 ?_
  refine zc_callV hm (pc := 7) [] [] l_T_231 (c_Units_seek l B M (hT.mod hm) r2 r2B (hm.k r2k)) rfl rfl r2k (by decide) (by decide) (Nat.le_of_ble_eq_true rfl) d_T_units_7 (fun r5 N3 hq4 => ?_)
  obtain ⟨hk8, rfl⟩ := hq4
  have hn6 : zMod B [(9, 3), (9, 4)] M N3 := hm.call hk8 (by decide)
  show zW l m_T_units (zn M + 0, zw M + 0) N3 10 [some (.ref q)] [] (zqI B M [(9, 3), (9, 4)])
  refine zw_aload_n (pc := 10) (n := 0) (x := q) rfl d_T_units_10 ?_
  refine zc_getF hn6 (pc := 11) f_T_28 rfl hqk r1f d_T_units_11 ?_
  refine zc_getF hn6 (pc := 14) f_T_227 rfl r1k r2f d_T_units_14 ?_
  refine zc_callV hn6 (pc := 17) [] [] l_T_236 (c_Units_total l B N3 (hT.mod hn6) r2 r2B (hn6.k r2k)) rfl rfl r2k (by decide) (by decide) (Nat.le_of_ble_eq_true rfl) d_T_units_17 (fun r12 N10 hq11 => ?_)
  obtain ⟨hk15, v14, rfl⟩ := hq11
  have hn13 : zMod B [(9, 3), (9, 4)] M N10 := hn6.call hk15 (by decide)
  show zW l m_T_units (zn M + 0, zw M + 0) N10 20 [some (.ref q)] [.int v14] (zqI B M [(9, 3), (9, 4)])
  exact zw_iret (S := []) (pc := 20) (ty := .int) rfl rfl d_T_units_20 ⟨hn13, _, rfl⟩
set_option maxHeartbeats 4000000 in
theorem c_Units_signsOf (l : Launch) (B : Nat) (M : zMem) (hT : zTy B M) (q : Nat) (hqB : q < B) (hqk : (zsh M q).1 = 9 + 3) (x0 : Int32) : zC l m_Units_signsOf 0 0 [.ref q, .int x0] M (zqI B M []) := by
  refine zC_of (L0 := [some (.ref q), some (.int x0), none, none, none]) md_Units_signsOf (Nat.le_of_ble_eq_true rfl) rfl ?_ zQ0
  have hm : zMod B [] M M := zMod.rf
  refine zw_iconst (pc := 0) (v := 0) (by decide) d_Units_signsOf_0 ?_
  refine zw_istore_n (pc := 1) (i := 2) (L2 := [some (.ref q), some (.int x0), some (.int 0), none, none]) rfl (by decide) rfl d_Units_signsOf_1 ?_
  refine zw_iconst (pc := 2) (v := 0) (by decide) d_Units_signsOf_2 ?_
  refine zw_istore_n (pc := 3) (i := 3) (L2 := [some (.ref q), some (.int x0), some (.int 0), some (.int 0), none]) rfl (by decide) rfl d_Units_signsOf_3 ?_
  have lp_4 : ∀ (n : Nat) (u1 : Int32) (u2 : Int32) (N3 : zMem) (hn4 : zMod B [] M N3), zvu u2 (zi M q 3) < n → zW l m_Units_signsOf (zn M + 0, zw M + 0) N3 4 [some (.ref q), some (.int x0), some (.int u1), some (.int u2), none] [] (zqI B M []) := by
    intro n
    induction n with
    | zero =>
      intro u1 u2 N3 hn4 h0
      exact absurd h0 (Nat.not_lt_zero _)
    | succ n ih_4 =>
      intro u1 u2 N3 hn4 hlt_4
      refine zw_iload_n (pc := 4) (n := 3) (x := u2) rfl d_Units_signsOf_4 ?_
      refine zw_aload_n (pc := 5) (n := 0) (x := q) rfl d_Units_signsOf_5 ?_
      refine zc_getI0 hn4 (pc := 6) (by decide) f_Units_31 rfl hqk d_Units_signsOf_6 ?_
      refine zw_icmp_ge (pc := 9) (tgt := 44) (by decide) d_Units_signsOf_9 (fun hc_9 => ?_) (fun hc_9 => ?_)
      · refine zw_iconst (pc := 44) (v := 0) (by decide) d_Units_signsOf_44 ?_
        refine zw_istore_n (pc := 45) (i := 3) (L2 := [some (.ref q), some (.int x0), some (.int u1), some (.int 0), none]) rfl (by decide) rfl d_Units_signsOf_45 ?_
        refine zw_iconst (pc := 46) (v := 0) (by decide) d_Units_signsOf_46 ?_
        refine zw_istore (pc := 47) (i := 4) (L2 := [some (.ref q), some (.int x0), some (.int u1), some (.int 0), some (.int 0)]) (by decide) rfl d_Units_signsOf_47 ?_
        obtain ⟨r9, r9f, r9B, r9k⟩ := hT.1 q 9 0 hqB hqk (by decide) (by decide) rfl
        have lp_49 : ∀ (n : Nat) (u5 : Int32) (u6 : Int32) (N7 : zMem) (hn8 : zMod B [] M N7), zvu u6 (zi M r9 7) < n → zW l m_Units_signsOf (zn M + 0, zw M + 0) N7 49 [some (.ref q), some (.int x0), some (.int u1), some (.int u5), some (.int u6)] [] (zqI B M []) := by
          intro n
          induction n with
          | zero =>
            intro u5 u6 N7 hn8 h0
            exact absurd h0 (Nat.not_lt_zero _)
          | succ n ih_49 =>
            intro u5 u6 N7 hn8 hlt_49
            refine zw_iload (pc := 49) (i := 4) (x := u6) rfl d_Units_signsOf_49 ?_
            refine zw_aload_n (pc := 51) (n := 0) (x := q) rfl d_Units_signsOf_51 ?_
            refine zc_getF hn8 (pc := 52) f_Units_23 rfl hqk r9f d_Units_signsOf_52 ?_
            refine zc_getI0 hn8 (pc := 55) (by decide) f_Units_35 rfl r9k d_Units_signsOf_55 ?_
            refine zw_icmp_ge (pc := 58) (tgt := 85) (by decide) d_Units_signsOf_58 (fun hc_58 => ?_) (fun hc_58 => ?_)
            · refine zw_iload_n (pc := 85) (n := 3) (x := u5) rfl d_Units_signsOf_85 ?_
              exact zw_iret (S := []) (pc := 86) (ty := .int) rfl rfl d_Units_signsOf_86 ⟨hn8, _, rfl⟩
            · refine zw_iload_n (pc := 61) (n := 2) (x := u1) rfl d_Units_signsOf_61 ?_
              refine zw_aload_n (pc := 62) (n := 0) (x := q) rfl d_Units_signsOf_62 ?_
              refine zw_iload (pc := 63) (i := 4) (x := u6) rfl d_Units_signsOf_63 ?_
              refine zc_callV hn8 (pc := 65) [.int u6] [.int u1] l_Units_80 (c_Units_bitOf l B N7 (hT.mod hn8) q hqB (hn8.k hqk) u6) rfl rfl hqk (by decide) (by decide) (Nat.le_of_ble_eq_true rfl) d_Units_signsOf_65 (fun r12 N10 hq11 => ?_)
              obtain ⟨hk15, v14, rfl⟩ := hq11
              have hn13 : zMod B [] M N10 := hn8.call hk15 (by decide)
              show zW l m_Units_signsOf (zn M + 0, zw M + 0) N10 68 [some (.ref q), some (.int x0), some (.int u1), some (.int u5), some (.int u6)] [.int v14, .int u1] (zqI B M [])
              refine zw_iand (pc := 68) d_Units_signsOf_68 ?_
              have j_79 : ∀ (u17 : Int32) (N18 : zMem) (hn19 : zMod B [] M N18), zW l m_Units_signsOf (zn M + 0, zw M + 0) N18 79 [some (.ref q), some (.int x0), some (.int u1), some (.int u17), some (.int u6)] [] (zqI B M []) := by
                intro u17 N18 hn19
                refine zw_iinc (pc := 79) (i := 4) (x := u6) (v := u6 + Int32.ofInt 1) (L2 := [some (.ref q), some (.int x0), some (.int u1), some (.int u17), some (.int (u6 + Int32.ofInt 1))]) rfl rfl (by decide) rfl d_Units_signsOf_79 ?_
                refine zw_goto (pc := 82) (tgt := 49) (by decide) d_Units_signsOf_82 ?_
                exact ih_49 u17 (u6 + Int32.ofInt 1) N18 hn19 (Nat.lt_of_lt_of_le (z_up hc_58) (Nat.le_of_lt_succ hlt_49))
              refine zw_if_eq (pc := 69) (tgt := 79) (by decide) d_Units_signsOf_69 (fun hc_69 => ?_) (fun hc_69 => ?_)
              · exact j_79 u5 N10 hn13
              · refine zw_iload_n (pc := 72) (n := 3) (x := u5) rfl d_Units_signsOf_72 ?_
                refine zw_iconst (pc := 73) (v := 1) (by decide) d_Units_signsOf_73 ?_
                refine zw_iload (pc := 74) (i := 4) (x := u6) rfl d_Units_signsOf_74 ?_
                refine zw_ishl (pc := 76) d_Units_signsOf_76 ?_
                refine zw_ior (pc := 77) d_Units_signsOf_77 ?_
                refine zw_istore_n (pc := 78) (i := 3) (L2 := [some (.ref q), some (.int x0), some (.int u1), some (.int (u5 ||| (1 <<< (u6 &&& 31)))), some (.int u6)]) rfl (by decide) rfl d_Units_signsOf_78 ?_
                exact j_79 (u5 ||| (1 <<< (u6 &&& 31))) N10 hn13
        exact lp_49 _ 0 0 N3 hn4 (Nat.lt_succ_self _)
      · refine zw_iload_n (pc := 12) (n := 1) (x := x0) rfl d_Units_signsOf_12 ?_
        refine zw_aload_n (pc := 13) (n := 0) (x := q) rfl d_Units_signsOf_13 ?_
        refine zc_getI0 hn4 (pc := 14) (by decide) f_Units_31 rfl hqk d_Units_signsOf_14 ?_
        refine zw_iconst (pc := 17) (v := 1) (by decide) d_Units_signsOf_17 ?_
        refine zw_isub (pc := 18) d_Units_signsOf_18 ?_
        refine zw_iload_n (pc := 19) (n := 3) (x := u2) rfl d_Units_signsOf_19 ?_
        refine zw_isub (pc := 20) d_Units_signsOf_20 ?_
        refine zc_callS hn4 (pc := 21) [.int x0, .int (((zi M q 3) - 1) - u2)] [] l_Units_69 (c_T_isIn l B N3 (hT.mod hn4) x0 (((zi M q 3) - 1) - u2)) rfl rfl (by decide) (Nat.le_of_ble_eq_true rfl) d_Units_signsOf_21 (fun r22 N20 hq21 => ?_)
        obtain ⟨hk25, v24, rfl, zv24⟩ := hq21
        have hn23 : zMod B [] M N20 := hn4.call hk25 (by decide)
        show zW l m_Units_signsOf (zn M + 0, zw M + 0) N20 24 [some (.ref q), some (.int x0), some (.int u1), some (.int u2), none] [.int v24] (zqI B M [])
        have j_38 : ∀ (u27 : Int32) (N28 : zMem) (hn29 : zMod B [] M N28), zW l m_Units_signsOf (zn M + 0, zw M + 0) N28 38 [some (.ref q), some (.int x0), some (.int u27), some (.int u2), none] [] (zqI B M []) := by
          intro u27 N28 hn29
          refine zw_iinc (pc := 38) (i := 3) (x := u2) (v := u2 + Int32.ofInt 1) (L2 := [some (.ref q), some (.int x0), some (.int u27), some (.int (u2 + Int32.ofInt 1)), none]) rfl rfl (by decide) rfl d_Units_signsOf_38 ?_
          refine zw_goto (pc := 41) (tgt := 4) (by decide) d_Units_signsOf_41 ?_
          exact ih_4 u27 (u2 + Int32.ofInt 1) N28 hn29 (Nat.lt_of_lt_of_le (z_up hc_9) (Nat.le_of_lt_succ hlt_4))
        refine zw_if_eq (pc := 24) (tgt := 38) (by decide) d_Units_signsOf_24 (fun hc_24 => ?_) (fun hc_24 => ?_)
        · exact j_38 u1 N20 hn23
        · refine zw_iload_n (pc := 27) (n := 2) (x := u1) rfl d_Units_signsOf_27 ?_
          refine zw_aload_n (pc := 28) (n := 0) (x := q) rfl d_Units_signsOf_28 ?_
          obtain ⟨r30, r30f, r30B, r30k⟩ := hT.1 q 9 1 hqB hqk (by decide) (by decide) rfl
          refine zc_getF hn23 (pc := 29) f_Units_14 rfl hqk r30f d_Units_signsOf_29 ?_
          refine zw_iload_n (pc := 32) (n := 3) (x := u2) rfl d_Units_signsOf_32 ?_
          refine zc_callV hn23 (pc := 33) [.int u2] [.int u1] l_Units_57 (c_IntRow_at l B N20 (hT.mod hn23) r30 r30B (hn23.k r30k) u2) rfl rfl r30k (by decide) (by decide) (Nat.le_of_ble_eq_true rfl) d_Units_signsOf_33 (fun r33 N31 hq32 => ?_)
          obtain ⟨hk36, v35, rfl⟩ := hq32
          have hn34 : zMod B [] M N31 := hn23.call hk36 (by decide)
          show zW l m_Units_signsOf (zn M + 0, zw M + 0) N31 36 [some (.ref q), some (.int x0), some (.int u1), some (.int u2), none] [.int v35, .int u1] (zqI B M [])
          refine zw_ixor (pc := 36) d_Units_signsOf_36 ?_
          refine zw_istore_n (pc := 37) (i := 2) (L2 := [some (.ref q), some (.int x0), some (.int (u1 ^^^ v35)), some (.int u2), none]) rfl (by decide) rfl d_Units_signsOf_37 ?_
          exact j_38 (u1 ^^^ v35) N31 hn34
  exact lp_4 _ 0 0 M hm (Nat.lt_succ_self _)
set_option maxHeartbeats 4000000 in
theorem c_Sums_putSigns (l : Launch) (B : Nat) (M : zMem) (hT : zTy B M) (q : Nat) (hqB : q < B) (hqk : (zsh M q).1 = 7 + 3) (x0 : Int32) : zC l m_Sums_putSigns 0 0 [.ref q, .int x0] M (zqV B M []) := by
  refine zC_of (L0 := [some (.ref q), some (.int x0), none]) md_Sums_putSigns (Nat.le_of_ble_eq_true rfl) rfl ?_ zQ0
  have hm : zMod B [] M M := zMod.rf
  refine zw_iconst (pc := 0) (v := 0) (by decide) d_Sums_putSigns_0 ?_
  refine zw_istore_n (pc := 1) (i := 2) (L2 := [some (.ref q), some (.int x0), some (.int 0)]) rfl (by decide) rfl d_Sums_putSigns_1 ?_
  obtain ⟨r4, r4f, r4B, r4k⟩ := hT.1 q 7 0 hqB hqk (by decide) (by decide) rfl
  have lp_2 : ∀ (n : Nat) (u1 : Int32) (N2 : zMem) (hn3 : zMod B [] M N2), zvu u1 (zi M r4 7) < n → zW l m_Sums_putSigns (zn M + 0, zw M + 0) N2 2 [some (.ref q), some (.int x0), some (.int u1)] [] (zqV B M []) := by
    intro n
    induction n with
    | zero =>
      intro u1 N2 hn3 h0
      exact absurd h0 (Nat.not_lt_zero _)
    | succ n ih_2 =>
      intro u1 N2 hn3 hlt_2
      refine zw_iload_n (pc := 2) (n := 2) (x := u1) rfl d_Sums_putSigns_2 ?_
      refine zw_aload_n (pc := 3) (n := 0) (x := q) rfl d_Sums_putSigns_3 ?_
      refine zc_getF hn3 (pc := 4) f_Sums_23 rfl hqk r4f d_Sums_putSigns_4 ?_
      refine zc_getI0 hn3 (pc := 7) (by decide) f_Sums_35 rfl r4k d_Sums_putSigns_7 ?_
      refine zw_icmp_ge (pc := 10) (tgt := 42) (by decide) d_Sums_putSigns_10 (fun hc_10 => ?_) (fun hc_10 => ?_)
      · refine zw_aload_n (pc := 42) (n := 0) (x := q) rfl d_Sums_putSigns_42 ?_
        refine zw_bipush (pc := 43) (v := 39) (by decide) d_Sums_putSigns_43 ?_
        refine zc_callV hn3 (pc := 45) [.int 39] [] l_Sums_58 (c_Sums_solve l B N2 (hT.mod hn3) q hqB (hn3.k hqk) 39) rfl rfl hqk (by decide) (by decide) (Nat.le_of_ble_eq_true rfl) d_Sums_putSigns_45 (fun r7 N5 hq6 => ?_)
        obtain ⟨hk10, rfl⟩ := hq6
        have hn8 : zMod B [] M N5 := hn3.call hk10 (by decide)
        show zW l m_Sums_putSigns (zn M + 0, zw M + 0) N5 48 [some (.ref q), some (.int x0), some (.int u1)] [] (zqV B M [])
        exact zw_vret (S := []) (pc := 48) rfl d_Sums_putSigns_48 ⟨hn8, rfl⟩
      · refine zw_aload_n (pc := 13) (n := 0) (x := q) rfl d_Sums_putSigns_13 ?_
        obtain ⟨r12, r12f, r12B, r12k⟩ := hT.1 q 7 2 hqB hqk (by decide) (by decide) rfl
        refine zc_getF hn3 (pc := 14) f_Sums_20 rfl hqk r12f d_Sums_putSigns_14 ?_
        refine zw_iload_n (pc := 17) (n := 2) (x := u1) rfl d_Sums_putSigns_17 ?_
        refine zw_iload_n (pc := 18) (n := 1) (x := x0) rfl d_Sums_putSigns_18 ?_
        refine zw_iload_n (pc := 19) (n := 2) (x := u1) rfl d_Sums_putSigns_19 ?_
        refine zc_callS hn3 (pc := 20) [.int x0, .int u1] [.int u1, .ref r12] l_Sums_61 (c_T_isIn l B N2 (hT.mod hn3) x0 u1) rfl rfl (by decide) (Nat.le_of_ble_eq_true rfl) d_Sums_putSigns_20 (fun r15 N13 hq14 => ?_)
        obtain ⟨hk18, v17, rfl, zv17⟩ := hq14
        have hn16 : zMod B [] M N13 := hn3.call hk18 (by decide)
        show zW l m_Sums_putSigns (zn M + 0, zw M + 0) N13 23 [some (.ref q), some (.int x0), some (.int u1)] [.int v17, .int u1, .ref r12] (zqV B M [])
        have j_33 : ∀ (u20 : Int64) (N21 : zMem) (hn22 : zMod B [] M N21), zW l m_Sums_putSigns (zn M + 0, zw M + 0) N21 33 [some (.ref q), some (.int x0), some (.int u1)] [.long u20, .int u1, .ref r12] (zqV B M []) := by
          intro u20 N21 hn22
          refine zc_callV hn22 (pc := 33) [.int u1, .long u20] [] l_Sums_31 (c_LongRow_put l B N21 (hT.mod hn22) r12 r12B (hn22.k r12k) u1 u20) rfl rfl r12k (by decide) (by decide) (Nat.le_of_ble_eq_true rfl) d_Sums_putSigns_33 (fun r25 N23 hq24 => ?_)
          obtain ⟨hk28, rfl⟩ := hq24
          have hn26 : zMod B [] M N23 := hn22.call hk28 (by decide)
          show zW l m_Sums_putSigns (zn M + 0, zw M + 0) N23 36 [some (.ref q), some (.int x0), some (.int u1)] [] (zqV B M [])
          refine zw_iinc (pc := 36) (i := 2) (x := u1) (v := u1 + Int32.ofInt 1) (L2 := [some (.ref q), some (.int x0), some (.int (u1 + Int32.ofInt 1))]) rfl rfl (by decide) rfl d_Sums_putSigns_36 ?_
          refine zw_goto (pc := 39) (tgt := 2) (by decide) d_Sums_putSigns_39 ?_
          exact ih_2 (u1 + Int32.ofInt 1) N23 hn26 (Nat.lt_of_lt_of_le (z_up hc_10) (Nat.le_of_lt_succ hlt_2))
        refine zw_if_eq (pc := 23) (tgt := 32) (by decide) d_Sums_putSigns_23 (fun hc_23 => ?_) (fun hc_23 => ?_)
        · refine zw_lconst (pc := 32) (v := 1) (by decide) d_Sums_putSigns_32 ?_
          exact j_33 1 N13 hn16
        · refine zw_ldc2 (pc := 26) k_Sums_65 d_Sums_putSigns_26 ?_
          refine zw_goto (pc := 29) (tgt := 33) (by decide) d_Sums_putSigns_29 ?_
          exact j_33 ((-1)) N13 hn16
  exact lp_2 _ 0 M hm (Nat.lt_succ_self _)
set_option maxHeartbeats 4000000 in
theorem c_T_unit (l : Launch) (B : Nat) (M : zMem) (hT : zTy B M) (q : Nat) (hqB : q < B) (hqk : (zsh M q).1 = 0 + 3) (x0 : Int32) (x1 : Int32) : zC l m_T_unit 0 0 [.ref q, .int x0, .int x1] M (zqI B M [(9, 3), (9, 4)]) := by
  refine zC_of (L0 := [some (.ref q), some (.int x0), some (.int x1)]) md_T_unit (Nat.le_of_ble_eq_true rfl) rfl ?_ zQ0
  have hm : zMod B [(9, 3), (9, 4)] M M := zMod.rf
  refine zw_aload_n (pc := 0) (n := 0) (x := q) rfl d_T_unit_0 ?_
  obtain ⟨r1, r1f, r1B, r1k⟩ := hT.1 q 0 2 hqB hqk (by decide) (by decide) rfl
  refine zc_getF hm (pc := 1) f_T_28 rfl hqk r1f d_T_unit_1 ?_
  obtain ⟨r2, r2f, r2B, r2k⟩ := hT.1 r1 4 3 r1B r1k (by decide) (by decide) rfl
  refine zc_getF hm (pc := 4) f_T_227 rfl r1k r2f d_T_unit_4 ?_
  refine zc_callV hm (pc := 7) [] [] l_T_231 (c_Units_seek l B M (hT.mod hm) r2 r2B (hm.k r2k)) rfl rfl r2k (by decide) (by decide) (Nat.le_of_ble_eq_true rfl) d_T_unit_7 (fun r5 N3 hq4 => ?_)
  obtain ⟨hk8, rfl⟩ := hq4
  have hn6 : zMod B [(9, 3), (9, 4)] M N3 := hm.call hk8 (by decide)
  show zW l m_T_unit (zn M + 0, zw M + 0) N3 10 [some (.ref q), some (.int x0), some (.int x1)] [] (zqI B M [(9, 3), (9, 4)])
  refine zw_iload_n (pc := 10) (n := 1) (x := x0) rfl d_T_unit_10 ?_
  refine zw_if_lt (pc := 11) (tgt := 42) (by decide) d_T_unit_11 (fun hc_11 => ?_) (fun hc_11 => ?_)
  · refine zw_ldc (pc := 42) k_T_204 d_T_unit_42 ?_
    exact zw_iret (S := []) (pc := 44) (ty := .int) rfl rfl d_T_unit_44 ⟨hn6, _, rfl⟩
  · refine zw_iload_n (pc := 14) (n := 1) (x := x0) rfl d_T_unit_14 ?_
    refine zw_aload_n (pc := 15) (n := 0) (x := q) rfl d_T_unit_15 ?_
    refine zc_getF hn6 (pc := 16) f_T_28 rfl hqk r1f d_T_unit_16 ?_
    refine zc_getF hn6 (pc := 19) f_T_227 rfl r1k r2f d_T_unit_19 ?_
    refine zc_callV hn6 (pc := 22) [] [.int x0] l_T_236 (c_Units_total l B N3 (hT.mod hn6) r2 r2B (hn6.k r2k)) rfl rfl r2k (by decide) (by decide) (Nat.le_of_ble_eq_true rfl) d_T_unit_22 (fun r12 N10 hq11 => ?_)
    obtain ⟨hk15, v14, rfl⟩ := hq11
    have hn13 : zMod B [(9, 3), (9, 4)] M N10 := hn6.call hk15 (by decide)
    show zW l m_T_unit (zn M + 0, zw M + 0) N10 25 [some (.ref q), some (.int x0), some (.int x1)] [.int v14, .int x0] (zqI B M [(9, 3), (9, 4)])
    refine zw_icmp_ge (pc := 25) (tgt := 42) (by decide) d_T_unit_25 (fun hc_25 => ?_) (fun hc_25 => ?_)
    · refine zw_ldc (pc := 42) k_T_204 d_T_unit_42 ?_
      exact zw_iret (S := []) (pc := 44) (ty := .int) rfl rfl d_T_unit_44 ⟨hn13, _, rfl⟩
    · refine zw_aload_n (pc := 28) (n := 0) (x := q) rfl d_T_unit_28 ?_
      refine zc_getF hn13 (pc := 29) f_T_28 rfl hqk r1f d_T_unit_29 ?_
      obtain ⟨r17, r17f, r17B, r17k⟩ := hT.1 r1 4 1 r1B r1k (by decide) (by decide) rfl
      refine zc_getF hn13 (pc := 32) f_T_85 rfl r1k r17f d_T_unit_32 ?_
      refine zw_iload_n (pc := 35) (n := 2) (x := x1) rfl d_T_unit_35 ?_
      refine zc_callV hn13 (pc := 36) [.int x1] [] l_T_143 (c_Sorts_hasSort l B N10 (hT.mod hn13) r17 r17B (hn13.k r17k) x1) rfl rfl r17k (by decide) (by decide) (Nat.le_of_ble_eq_true rfl) d_T_unit_36 (fun r20 N18 hq19 => ?_)
      obtain ⟨hk23, v22, rfl, zv22⟩ := hq19
      have hn21 : zMod B [(9, 3), (9, 4)] M N18 := hn13.call hk23 (by decide)
      show zW l m_T_unit (zn M + 0, zw M + 0) N18 39 [some (.ref q), some (.int x0), some (.int x1)] [.int v22] (zqI B M [(9, 3), (9, 4)])
      refine zw_if_ne (pc := 39) (tgt := 45) (by decide) d_T_unit_39 (fun hc_39 => ?_) (fun hc_39 => ?_)
      · refine zw_aload_n (pc := 45) (n := 0) (x := q) rfl d_T_unit_45 ?_
        refine zc_getF hn21 (pc := 46) f_T_28 rfl hqk r1f d_T_unit_46 ?_
        obtain ⟨r25, r25f, r25B, r25k⟩ := hT.1 r1 4 2 r1B r1k (by decide) (by decide) rfl
        refine zc_getF hn21 (pc := 49) f_T_169 rfl r1k r25f d_T_unit_49 ?_
        refine zw_aload_n (pc := 52) (n := 0) (x := q) rfl d_T_unit_52 ?_
        refine zc_getF hn21 (pc := 53) f_T_28 rfl hqk r1f d_T_unit_53 ?_
        refine zc_getF hn21 (pc := 56) f_T_227 rfl r1k r2f d_T_unit_56 ?_
        refine zw_iload_n (pc := 59) (n := 1) (x := x0) rfl d_T_unit_59 ?_
        refine zc_callV hn21 (pc := 60) [.int x0] [.ref r25] l_T_239 (c_Units_signsOf l B N18 (hT.mod hn21) r2 r2B (hn21.k r2k) x0) rfl rfl r2k (by decide) (by decide) (Nat.le_of_ble_eq_true rfl) d_T_unit_60 (fun r28 N26 hq27 => ?_)
        obtain ⟨hk31, v30, rfl⟩ := hq27
        have hn29 : zMod B [(9, 3), (9, 4)] M N26 := hn21.call hk31 (by decide)
        show zW l m_T_unit (zn M + 0, zw M + 0) N26 63 [some (.ref q), some (.int x0), some (.int x1)] [.int v30, .ref r25] (zqI B M [(9, 3), (9, 4)])
        refine zc_callV hn29 (pc := 63) [.int v30] [] l_T_242 (c_Sums_putSigns l B N26 (hT.mod hn29) r25 r25B (hn29.k r25k) v30) rfl rfl r25k (by decide) (by decide) (Nat.le_of_ble_eq_true rfl) d_T_unit_63 (fun r35 N33 hq34 => ?_)
        obtain ⟨hk38, rfl⟩ := hq34
        have hn36 : zMod B [(9, 3), (9, 4)] M N33 := hn29.call hk38 (by decide)
        show zW l m_T_unit (zn M + 0, zw M + 0) N33 66 [some (.ref q), some (.int x0), some (.int x1)] [] (zqI B M [(9, 3), (9, 4)])
        refine zw_aload_n (pc := 66) (n := 0) (x := q) rfl d_T_unit_66 ?_
        refine zc_getF hn36 (pc := 67) f_T_28 rfl hqk r1f d_T_unit_67 ?_
        refine zc_getF hn36 (pc := 70) f_T_169 rfl r1k r25f d_T_unit_70 ?_
        refine zw_bipush (pc := 73) (v := 39) (by decide) d_T_unit_73 ?_
        refine zw_iload_n (pc := 75) (n := 2) (x := x1) rfl d_T_unit_75 ?_
        refine zc_callV hn36 (pc := 76) [.int 39, .int x1] [] l_T_179 (c_Sums_numberAt l B N33 (hT.mod hn36) r25 r25B (hn36.k r25k) 39 x1) rfl rfl r25k (by decide) (by decide) (Nat.le_of_ble_eq_true rfl) d_T_unit_76 (fun r42 N40 hq41 => ?_)
        obtain ⟨hk45, v44, rfl⟩ := hq41
        have hn43 : zMod B [(9, 3), (9, 4)] M N40 := hn36.call hk45 (by decide)
        show zW l m_T_unit (zn M + 0, zw M + 0) N40 79 [some (.ref q), some (.int x0), some (.int x1)] [.long v44] (zqI B M [(9, 3), (9, 4)])
        refine zw_l2i (pc := 79) d_T_unit_79 ?_
        exact zw_iret (S := []) (pc := 80) (ty := .int) rfl rfl d_T_unit_80 ⟨hn43, _, rfl⟩
      · refine zw_ldc (pc := 42) k_T_204 d_T_unit_42 ?_
        exact zw_iret (S := []) (pc := 44) (ty := .int) rfl rfl d_T_unit_44 ⟨hn21, _, rfl⟩
set_option maxHeartbeats 4000000 in
theorem c_Troupe_hasName (l : Launch) (B : Nat) (M : zMem) (hT : zTy B M) (q : Nat) (hqB : q < B) (hqk : (zsh M q).1 = 4 + 3) (x0 : Int32) : zC l m_Troupe_hasName 0 0 [.ref q, .int x0] M (zqZ B M []) := by
  refine zC_of (L0 := [some (.ref q), some (.int x0)]) md_Troupe_hasName (Nat.le_of_ble_eq_true rfl) rfl ?_ zQ0
  have hm : zMod B [] M M := zMod.rf
  refine zw_iload_n (pc := 0) (n := 1) (x := x0) rfl d_Troupe_hasName_0 ?_
  refine zw_if_lt (pc := 1) (tgt := 16) (by decide) d_Troupe_hasName_1 (fun hc_1 => ?_) (fun hc_1 => ?_)
  · refine zw_iconst (pc := 16) (v := 0) (by decide) d_Troupe_hasName_16 ?_
    exact zw_iret (S := []) (pc := 17) (ty := .boolean) rfl (z_narZ (Or.inl rfl)) d_Troupe_hasName_17 ⟨hm, _, rfl, Or.inl rfl⟩
  · refine zw_iload_n (pc := 4) (n := 1) (x := x0) rfl d_Troupe_hasName_4 ?_
    refine zw_aload_n (pc := 5) (n := 0) (x := q) rfl d_Troupe_hasName_5 ?_
    refine zc_getI0 hm (pc := 6) (by decide) f_Troupe_64 rfl hqk d_Troupe_hasName_6 ?_
    refine zw_icmp_ge (pc := 9) (tgt := 16) (by decide) d_Troupe_hasName_9 (fun hc_9 => ?_) (fun hc_9 => ?_)
    · refine zw_iconst (pc := 16) (v := 0) (by decide) d_Troupe_hasName_16 ?_
      exact zw_iret (S := []) (pc := 17) (ty := .boolean) rfl (z_narZ (Or.inl rfl)) d_Troupe_hasName_17 ⟨hm, _, rfl, Or.inl rfl⟩
    · refine zw_iconst (pc := 12) (v := 1) (by decide) d_Troupe_hasName_12 ?_
      refine zw_goto (pc := 13) (tgt := 17) (by decide) d_Troupe_hasName_13 ?_
      exact zw_iret (S := []) (pc := 17) (ty := .boolean) rfl (z_narZ (Or.inr rfl)) d_Troupe_hasName_17 ⟨hm, _, rfl, Or.inr rfl⟩
set_option maxHeartbeats 4000000 in
theorem c_T_named (l : Launch) (B : Nat) (M : zMem) (hT : zTy B M) (q : Nat) (hqB : q < B) (hqk : (zsh M q).1 = 0 + 3) (x0 : Int32) (x1 : Int32) : zC l m_T_named 0 0 [.ref q, .int x0, .int x1] M (zqJ B M []) := by
  refine zC_of (L0 := [some (.ref q), some (.int x0), some (.int x1)]) md_T_named (Nat.le_of_ble_eq_true rfl) rfl ?_ zQ0
  have hm : zMod B [] M M := zMod.rf
  refine zw_aload_n (pc := 0) (n := 0) (x := q) rfl d_T_named_0 ?_
  obtain ⟨r1, r1f, r1B, r1k⟩ := hT.1 q 0 2 hqB hqk (by decide) (by decide) rfl
  refine zc_getF hm (pc := 1) f_T_28 rfl hqk r1f d_T_named_1 ?_
  refine zw_iload_n (pc := 4) (n := 1) (x := x0) rfl d_T_named_4 ?_
  refine zc_callV hm (pc := 5) [.int x0] [] l_T_245 (c_Troupe_hasName l B M (hT.mod hm) r1 r1B (hm.k r1k) x0) rfl rfl r1k (by decide) (by decide) (Nat.le_of_ble_eq_true rfl) d_T_named_5 (fun r4 N2 hq3 => ?_)
  obtain ⟨hk7, v6, rfl, zv6⟩ := hq3
  have hn5 : zMod B [] M N2 := hm.call hk7 (by decide)
  show zW l m_T_named (zn M + 0, zw M + 0) N2 8 [some (.ref q), some (.int x0), some (.int x1)] [.int v6] (zqJ B M [])
  refine zw_if_eq (pc := 8) (tgt := 42) (by decide) d_T_named_8 (fun hc_8 => ?_) (fun hc_8 => ?_)
  · refine zw_ldc2 (pc := 42) k_T_248 d_T_named_42 ?_
    exact zw_lret (S := []) (pc := 45) rfl d_T_named_45 ⟨hn5, _, rfl⟩
  · refine zw_aload_n (pc := 11) (n := 0) (x := q) rfl d_T_named_11 ?_
    refine zc_getF hn5 (pc := 12) f_T_28 rfl hqk r1f d_T_named_12 ?_
    obtain ⟨r9, r9f, r9B, r9k⟩ := hT.1 r1 4 1 r1B r1k (by decide) (by decide) rfl
    refine zc_getF hn5 (pc := 15) f_T_85 rfl r1k r9f d_T_named_15 ?_
    refine zw_iload_n (pc := 18) (n := 2) (x := x1) rfl d_T_named_18 ?_
    refine zc_callV hn5 (pc := 19) [.int x1] [] l_T_143 (c_Sorts_hasSort l B N2 (hT.mod hn5) r9 r9B (hn5.k r9k) x1) rfl rfl r9k (by decide) (by decide) (Nat.le_of_ble_eq_true rfl) d_T_named_19 (fun r12 N10 hq11 => ?_)
    obtain ⟨hk15, v14, rfl, zv14⟩ := hq11
    have hn13 : zMod B [] M N10 := hn5.call hk15 (by decide)
    show zW l m_T_named (zn M + 0, zw M + 0) N10 22 [some (.ref q), some (.int x0), some (.int x1)] [.int v14] (zqJ B M [])
    refine zw_if_eq (pc := 22) (tgt := 42) (by decide) d_T_named_22 (fun hc_22 => ?_) (fun hc_22 => ?_)
    · refine zw_ldc2 (pc := 42) k_T_248 d_T_named_42 ?_
      exact zw_lret (S := []) (pc := 45) rfl d_T_named_45 ⟨hn13, _, rfl⟩
    · refine zw_aload_n (pc := 25) (n := 0) (x := q) rfl d_T_named_25 ?_
      refine zc_getF hn13 (pc := 26) f_T_28 rfl hqk r1f d_T_named_26 ?_
      obtain ⟨r17, r17f, r17B, r17k⟩ := hT.1 r1 4 2 r1B r1k (by decide) (by decide) rfl
      refine zc_getF hn13 (pc := 29) f_T_169 rfl r1k r17f d_T_named_29 ?_
      refine zw_iconst (pc := 32) (v := 1) (by decide) d_T_named_32 ?_
      refine zw_iload_n (pc := 33) (n := 1) (x := x0) rfl d_T_named_33 ?_
      refine zw_iadd (pc := 34) d_T_named_34 ?_
      refine zw_iload_n (pc := 35) (n := 2) (x := x1) rfl d_T_named_35 ?_
      refine zc_callV hn13 (pc := 36) [.int (1 + x0), .int x1] [] l_T_179 (c_Sums_numberAt l B N10 (hT.mod hn13) r17 r17B (hn13.k r17k) (1 + x0) x1) rfl rfl r17k (by decide) (by decide) (Nat.le_of_ble_eq_true rfl) d_T_named_36 (fun r20 N18 hq19 => ?_)
      obtain ⟨hk23, v22, rfl⟩ := hq19
      have hn21 : zMod B [] M N18 := hn13.call hk23 (by decide)
      show zW l m_T_named (zn M + 0, zw M + 0) N18 39 [some (.ref q), some (.int x0), some (.int x1)] [.long v22] (zqJ B M [])
      refine zw_goto (pc := 39) (tgt := 45) (by decide) d_T_named_39 ?_
      exact zw_lret (S := []) (pc := 45) rfl d_T_named_45 ⟨hn21, _, rfl⟩
set_option maxHeartbeats 4000000 in
theorem c_T_has (l : Launch) (B : Nat) (M : zMem) (hT : zTy B M) (q : Nat) (hqB : q < B) (hqk : (zsh M q).1 = 0 + 3) (x0 : Int32) : zC l m_T_has 0 0 [.ref q, .int x0] M (zqJ B M []) := by
  refine zC_of (L0 := [some (.ref q), some (.int x0)]) md_T_has (Nat.le_of_ble_eq_true rfl) rfl ?_ zQ0
  have hm : zMod B [] M M := zMod.rf
  refine zw_aload_n (pc := 0) (n := 0) (x := q) rfl d_T_has_0 ?_
  obtain ⟨r1, r1f, r1B, r1k⟩ := hT.1 q 0 2 hqB hqk (by decide) (by decide) rfl
  refine zc_getF hm (pc := 1) f_T_28 rfl hqk r1f d_T_has_1 ?_
  obtain ⟨r2, r2f, r2B, r2k⟩ := hT.1 r1 4 1 r1B r1k (by decide) (by decide) rfl
  refine zc_getF hm (pc := 4) f_T_85 rfl r1k r2f d_T_has_4 ?_
  refine zw_iload_n (pc := 7) (n := 1) (x := x0) rfl d_T_has_7 ?_
  refine zc_callV hm (pc := 8) [.int x0] [] l_T_143 (c_Sorts_hasSort l B M (hT.mod hm) r2 r2B (hm.k r2k) x0) rfl rfl r2k (by decide) (by decide) (Nat.le_of_ble_eq_true rfl) d_T_has_8 (fun r5 N3 hq4 => ?_)
  obtain ⟨hk8, v7, rfl, zv7⟩ := hq4
  have hn6 : zMod B [] M N3 := hm.call hk8 (by decide)
  show zW l m_T_has (zn M + 0, zw M + 0) N3 11 [some (.ref q), some (.int x0)] [.int v7] (zqJ B M [])
  refine zw_if_eq (pc := 11) (tgt := 29) (by decide) d_T_has_11 (fun hc_11 => ?_) (fun hc_11 => ?_)
  · refine zw_ldc2 (pc := 29) k_T_248 d_T_has_29 ?_
    exact zw_lret (S := []) (pc := 32) rfl d_T_has_32 ⟨hn6, _, rfl⟩
  · refine zw_aload_n (pc := 14) (n := 0) (x := q) rfl d_T_has_14 ?_
    refine zc_getF hn6 (pc := 15) f_T_28 rfl hqk r1f d_T_has_15 ?_
    obtain ⟨r10, r10f, r10B, r10k⟩ := hT.1 r1 4 2 r1B r1k (by decide) (by decide) rfl
    refine zc_getF hn6 (pc := 18) f_T_169 rfl r1k r10f d_T_has_18 ?_
    refine zw_iconst (pc := 21) (v := 0) (by decide) d_T_has_21 ?_
    refine zw_iload_n (pc := 22) (n := 1) (x := x0) rfl d_T_has_22 ?_
    refine zc_callV hn6 (pc := 23) [.int 0, .int x0] [] l_T_179 (c_Sums_numberAt l B N3 (hT.mod hn6) r10 r10B (hn6.k r10k) 0 x0) rfl rfl r10k (by decide) (by decide) (Nat.le_of_ble_eq_true rfl) d_T_has_23 (fun r13 N11 hq12 => ?_)
    obtain ⟨hk16, v15, rfl⟩ := hq12
    have hn14 : zMod B [] M N11 := hn6.call hk16 (by decide)
    show zW l m_T_has (zn M + 0, zw M + 0) N11 26 [some (.ref q), some (.int x0)] [.long v15] (zqJ B M [])
    refine zw_goto (pc := 26) (tgt := 32) (by decide) d_T_has_26 ?_
    exact zw_lret (S := []) (pc := 32) rfl d_T_has_32 ⟨hn14, _, rfl⟩
set_option maxHeartbeats 4000000 in
theorem c_T_marked (l : Launch) (B : Nat) (M : zMem) (hT : zTy B M) (q : Nat) (hqB : q < B) (hqk : (zsh M q).1 = 0 + 3) (x0 : Int32) : zC l m_T_marked 0 0 [.ref q, .int x0] M (zqJ B M []) := by
  refine zC_of (L0 := [some (.ref q), some (.int x0)]) md_T_marked (Nat.le_of_ble_eq_true rfl) rfl ?_ zQ0
  have hm : zMod B [] M M := zMod.rf
  refine zw_aload_n (pc := 0) (n := 0) (x := q) rfl d_T_marked_0 ?_
  obtain ⟨r1, r1f, r1B, r1k⟩ := hT.1 q 0 2 hqB hqk (by decide) (by decide) rfl
  refine zc_getF hm (pc := 1) f_T_28 rfl hqk r1f d_T_marked_1 ?_
  obtain ⟨r2, r2f, r2B, r2k⟩ := hT.1 r1 4 1 r1B r1k (by decide) (by decide) rfl
  refine zc_getF hm (pc := 4) f_T_85 rfl r1k r2f d_T_marked_4 ?_
  refine zw_iload_n (pc := 7) (n := 1) (x := x0) rfl d_T_marked_7 ?_
  refine zc_callV hm (pc := 8) [.int x0] [] l_T_143 (c_Sorts_hasSort l B M (hT.mod hm) r2 r2B (hm.k r2k) x0) rfl rfl r2k (by decide) (by decide) (Nat.le_of_ble_eq_true rfl) d_T_marked_8 (fun r5 N3 hq4 => ?_)
  obtain ⟨hk8, v7, rfl, zv7⟩ := hq4
  have hn6 : zMod B [] M N3 := hm.call hk8 (by decide)
  show zW l m_T_marked (zn M + 0, zw M + 0) N3 11 [some (.ref q), some (.int x0)] [.int v7] (zqJ B M [])
  refine zw_if_eq (pc := 11) (tgt := 29) (by decide) d_T_marked_11 (fun hc_11 => ?_) (fun hc_11 => ?_)
  · refine zw_ldc2 (pc := 29) k_T_248 d_T_marked_29 ?_
    exact zw_lret (S := []) (pc := 32) rfl d_T_marked_32 ⟨hn6, _, rfl⟩
  · refine zw_aload_n (pc := 14) (n := 0) (x := q) rfl d_T_marked_14 ?_
    refine zc_getF hn6 (pc := 15) f_T_28 rfl hqk r1f d_T_marked_15 ?_
    obtain ⟨r10, r10f, r10B, r10k⟩ := hT.1 r1 4 2 r1B r1k (by decide) (by decide) rfl
    refine zc_getF hn6 (pc := 18) f_T_169 rfl r1k r10f d_T_marked_18 ?_
    refine zw_iconst (pc := 21) (v := 0) (by decide) d_T_marked_21 ?_
    refine zw_iload_n (pc := 22) (n := 1) (x := x0) rfl d_T_marked_22 ?_
    refine zc_callV hn6 (pc := 23) [.int 0, .int x0] [] l_T_250 (c_Sums_markOf l B N3 (hT.mod hn6) r10 r10B (hn6.k r10k) 0 x0) rfl rfl r10k (by decide) (by decide) (Nat.le_of_ble_eq_true rfl) d_T_marked_23 (fun r13 N11 hq12 => ?_)
    obtain ⟨hk16, v15, rfl⟩ := hq12
    have hn14 : zMod B [] M N11 := hn6.call hk16 (by decide)
    show zW l m_T_marked (zn M + 0, zw M + 0) N11 26 [some (.ref q), some (.int x0)] [.long v15] (zqJ B M [])
    refine zw_goto (pc := 26) (tgt := 32) (by decide) d_T_marked_26 ?_
    exact zw_lret (S := []) (pc := 32) rfl d_T_marked_32 ⟨hn14, _, rfl⟩
set_option maxHeartbeats 4000000 in
theorem c_T_character (l : Launch) (B : Nat) (M : zMem) (hT : zTy B M) (q : Nat) (hqB : q < B) (hqk : (zsh M q).1 = 0 + 3) (x0 : Int32) : zC l m_T_character 0 0 [.ref q, .int x0] M (zqJ B M []) := by
  refine zC_of (L0 := [some (.ref q), some (.int x0)]) md_T_character (Nat.le_of_ble_eq_true rfl) rfl ?_ zQ0
  have hm : zMod B [] M M := zMod.rf
  refine zw_aload_n (pc := 0) (n := 0) (x := q) rfl d_T_character_0 ?_
  obtain ⟨r1, r1f, r1B, r1k⟩ := hT.1 q 0 2 hqB hqk (by decide) (by decide) rfl
  refine zc_getF hm (pc := 1) f_T_28 rfl hqk r1f d_T_character_1 ?_
  obtain ⟨r2, r2f, r2B, r2k⟩ := hT.1 r1 4 0 r1B r1k (by decide) (by decide) rfl
  refine zc_getF hm (pc := 4) f_T_61 rfl r1k r2f d_T_character_4 ?_
  refine zw_iload_n (pc := 7) (n := 1) (x := x0) rfl d_T_character_7 ?_
  refine zc_callV hm (pc := 8) [.int x0] [] l_T_108 (c_Group_hasMember l B M (hT.mod hm) r2 r2B (hm.k r2k) x0) rfl rfl r2k (by decide) (by decide) (Nat.le_of_ble_eq_true rfl) d_T_character_8 (fun r5 N3 hq4 => ?_)
  obtain ⟨hk8, v7, rfl, zv7⟩ := hq4
  have hn6 : zMod B [] M N3 := hm.call hk8 (by decide)
  show zW l m_T_character (zn M + 0, zw M + 0) N3 11 [some (.ref q), some (.int x0)] [.int v7] (zqJ B M [])
  refine zw_if_ne (pc := 11) (tgt := 18) (by decide) d_T_character_11 (fun hc_11 => ?_) (fun hc_11 => ?_)
  · refine zw_aload_n (pc := 18) (n := 0) (x := q) rfl d_T_character_18 ?_
    refine zc_getF hn6 (pc := 19) f_T_28 rfl hqk r1f d_T_character_19 ?_
    obtain ⟨r10, r10f, r10B, r10k⟩ := hT.1 r1 4 2 r1B r1k (by decide) (by decide) rfl
    refine zc_getF hn6 (pc := 22) f_T_169 rfl r1k r10f d_T_character_22 ?_
    refine zw_iconst (pc := 25) (v := 0) (by decide) d_T_character_25 ?_
    refine zw_aload_n (pc := 26) (n := 0) (x := q) rfl d_T_character_26 ?_
    refine zc_getF hn6 (pc := 27) f_T_28 rfl hqk r1f d_T_character_27 ?_
    obtain ⟨r11, r11f, r11B, r11k⟩ := hT.1 r1 4 1 r1B r1k (by decide) (by decide) rfl
    refine zc_getF hn6 (pc := 30) f_T_85 rfl r1k r11f d_T_character_30 ?_
    refine zw_iconst (pc := 33) (v := 1) (by decide) d_T_character_33 ?_
    refine zw_iload_n (pc := 34) (n := 1) (x := x0) rfl d_T_character_34 ?_
    refine zw_ishl (pc := 35) d_T_character_35 ?_
    refine zc_callV hn6 (pc := 36) [.int (1 <<< (x0 &&& 31))] [.int 0, .ref r10] l_T_140 (c_Sorts_spannedSort l B N3 (hT.mod hn6) r11 r11B (hn6.k r11k) (1 <<< (x0 &&& 31))) rfl rfl r11k (by decide) (by decide) (Nat.le_of_ble_eq_true rfl) d_T_character_36 (fun r14 N12 hq13 => ?_)
    obtain ⟨hk17, v16, rfl⟩ := hq13
    have hn15 : zMod B [] M N12 := hn6.call hk17 (by decide)
    show zW l m_T_character (zn M + 0, zw M + 0) N12 39 [some (.ref q), some (.int x0)] [.int v16, .int 0, .ref r10] (zqJ B M [])
    refine zc_callV hn15 (pc := 39) [.int 0, .int v16] [] l_T_250 (c_Sums_markOf l B N12 (hT.mod hn15) r10 r10B (hn15.k r10k) 0 v16) rfl rfl r10k (by decide) (by decide) (Nat.le_of_ble_eq_true rfl) d_T_character_39 (fun r21 N19 hq20 => ?_)
    obtain ⟨hk24, v23, rfl⟩ := hq20
    have hn22 : zMod B [] M N19 := hn15.call hk24 (by decide)
    show zW l m_T_character (zn M + 0, zw M + 0) N19 42 [some (.ref q), some (.int x0)] [.long v23] (zqJ B M [])
    exact zw_lret (S := []) (pc := 42) rfl d_T_character_42 ⟨hn22, _, rfl⟩
  · refine zw_ldc2 (pc := 14) k_T_248 d_T_character_14 ?_
    exact zw_lret (S := []) (pc := 17) rfl d_T_character_17 ⟨hn6, _, rfl⟩
set_option maxHeartbeats 4000000 in
theorem c_Sums_partsOf (l : Launch) (B : Nat) (M : zMem) (hT : zTy B M) (q : Nat) (hqB : q < B) (hqk : (zsh M q).1 = 7 + 3) (x0 : Int32) : zC l m_Sums_partsOf 0 0 [.ref q, .int x0] M (zqI B M []) := by
  refine zC_of (L0 := [some (.ref q), some (.int x0), none, none]) md_Sums_partsOf (Nat.le_of_ble_eq_true rfl) rfl ?_ zQ0
  have hm : zMod B [] M M := zMod.rf
  refine zw_iconst (pc := 0) (v := 0) (by decide) d_Sums_partsOf_0 ?_
  refine zw_istore_n (pc := 1) (i := 2) (L2 := [some (.ref q), some (.int x0), some (.int 0), none]) rfl (by decide) rfl d_Sums_partsOf_1 ?_
  refine zw_iconst (pc := 2) (v := 0) (by decide) d_Sums_partsOf_2 ?_
  refine zw_istore_n (pc := 3) (i := 3) (L2 := [some (.ref q), some (.int x0), some (.int 0), some (.int 0)]) rfl (by decide) rfl d_Sums_partsOf_3 ?_
  obtain ⟨r5, r5f, r5B, r5k⟩ := hT.1 q 7 0 hqB hqk (by decide) (by decide) rfl
  have lp_4 : ∀ (n : Nat) (u1 : Int32) (u2 : Int32) (N3 : zMem) (hn4 : zMod B [] M N3), zvu u2 (zi M r5 7) < n → zW l m_Sums_partsOf (zn M + 0, zw M + 0) N3 4 [some (.ref q), some (.int x0), some (.int u1), some (.int u2)] [] (zqI B M []) := by
    intro n
    induction n with
    | zero =>
      intro u1 u2 N3 hn4 h0
      exact absurd h0 (Nat.not_lt_zero _)
    | succ n ih_4 =>
      intro u1 u2 N3 hn4 hlt_4
      refine zw_iload_n (pc := 4) (n := 3) (x := u2) rfl d_Sums_partsOf_4 ?_
      refine zw_aload_n (pc := 5) (n := 0) (x := q) rfl d_Sums_partsOf_5 ?_
      refine zc_getF hn4 (pc := 6) f_Sums_23 rfl hqk r5f d_Sums_partsOf_6 ?_
      refine zc_getI0 hn4 (pc := 9) (by decide) f_Sums_35 rfl r5k d_Sums_partsOf_9 ?_
      refine zw_icmp_ge (pc := 12) (tgt := 35) (by decide) d_Sums_partsOf_12 (fun hc_12 => ?_) (fun hc_12 => ?_)
      · refine zw_iload_n (pc := 35) (n := 2) (x := u1) rfl d_Sums_partsOf_35 ?_
        exact zw_iret (S := []) (pc := 36) (ty := .int) rfl rfl d_Sums_partsOf_36 ⟨hn4, _, rfl⟩
      · refine zw_aload_n (pc := 15) (n := 0) (x := q) rfl d_Sums_partsOf_15 ?_
        refine zw_iload_n (pc := 16) (n := 1) (x := x0) rfl d_Sums_partsOf_16 ?_
        refine zw_iload_n (pc := 17) (n := 3) (x := u2) rfl d_Sums_partsOf_17 ?_
        refine zc_callV hn4 (pc := 18) [.int x0, .int u2] [] l_Sums_67 (c_Sums_numberAt l B N3 (hT.mod hn4) q hqB (hn4.k hqk) x0 u2) rfl rfl hqk (by decide) (by decide) (Nat.le_of_ble_eq_true rfl) d_Sums_partsOf_18 (fun r8 N6 hq7 => ?_)
        obtain ⟨hk11, v10, rfl⟩ := hq7
        have hn9 : zMod B [] M N6 := hn4.call hk11 (by decide)
        show zW l m_Sums_partsOf (zn M + 0, zw M + 0) N6 21 [some (.ref q), some (.int x0), some (.int u1), some (.int u2)] [.long v10] (zqI B M [])
        refine zw_lconst (pc := 21) (v := 0) (by decide) d_Sums_partsOf_21 ?_
        refine zw_lcmp (pc := 22) d_Sums_partsOf_22 ?_
        have j_29 : ∀ (u13 : Int32) (N14 : zMem) (hn15 : zMod B [] M N14), zW l m_Sums_partsOf (zn M + 0, zw M + 0) N14 29 [some (.ref q), some (.int x0), some (.int u13), some (.int u2)] [] (zqI B M []) := by
          intro u13 N14 hn15
          refine zw_iinc (pc := 29) (i := 3) (x := u2) (v := u2 + Int32.ofInt 1) (L2 := [some (.ref q), some (.int x0), some (.int u13), some (.int (u2 + Int32.ofInt 1))]) rfl rfl (by decide) rfl d_Sums_partsOf_29 ?_
          refine zw_goto (pc := 32) (tgt := 4) (by decide) d_Sums_partsOf_32 ?_
          exact ih_4 u13 (u2 + Int32.ofInt 1) N14 hn15 (Nat.lt_of_lt_of_le (z_up hc_12) (Nat.le_of_lt_succ hlt_4))
        refine zw_if_eq (pc := 23) (tgt := 29) (by decide) d_Sums_partsOf_23 (fun hc_23 => ?_) (fun hc_23 => ?_)
        · exact j_29 u1 N6 hn9
        · refine zw_iinc (pc := 26) (i := 2) (x := u1) (v := u1 + Int32.ofInt 1) (L2 := [some (.ref q), some (.int x0), some (.int (u1 + Int32.ofInt 1)), some (.int u2)]) rfl rfl (by decide) rfl d_Sums_partsOf_26 ?_
          exact j_29 (u1 + Int32.ofInt 1) N6 hn9
  exact lp_4 _ 0 0 M hm (Nat.lt_succ_self _)
set_option maxHeartbeats 4000000 in
theorem c_T_parts (l : Launch) (B : Nat) (M : zMem) (hT : zTy B M) (q : Nat) (hqB : q < B) (hqk : (zsh M q).1 = 0 + 3) : zC l m_T_parts 0 0 [.ref q] M (zqI B M []) := by
  refine zC_of (L0 := [some (.ref q)]) md_T_parts (Nat.le_of_ble_eq_true rfl) rfl ?_ zQ0
  have hm : zMod B [] M M := zMod.rf
  refine zw_aload_n (pc := 0) (n := 0) (x := q) rfl d_T_parts_0 ?_
  obtain ⟨r1, r1f, r1B, r1k⟩ := hT.1 q 0 2 hqB hqk (by decide) (by decide) rfl
  refine zc_getF hm (pc := 1) f_T_28 rfl hqk r1f d_T_parts_1 ?_
  obtain ⟨r2, r2f, r2B, r2k⟩ := hT.1 r1 4 2 r1B r1k (by decide) (by decide) rfl
  refine zc_getF hm (pc := 4) f_T_169 rfl r1k r2f d_T_parts_4 ?_
  refine zw_iconst (pc := 7) (v := 0) (by decide) d_T_parts_7 ?_
  refine zc_callV hm (pc := 8) [.int 0] [] l_T_253 (c_Sums_partsOf l B M (hT.mod hm) r2 r2B (hm.k r2k) 0) rfl rfl r2k (by decide) (by decide) (Nat.le_of_ble_eq_true rfl) d_T_parts_8 (fun r5 N3 hq4 => ?_)
  obtain ⟨hk8, v7, rfl⟩ := hq4
  have hn6 : zMod B [] M N3 := hm.call hk8 (by decide)
  show zW l m_T_parts (zn M + 0, zw M + 0) N3 11 [some (.ref q)] [.int v7] (zqI B M [])
  exact zw_iret (S := []) (pc := 11) (ty := .int) rfl rfl d_T_parts_11 ⟨hn6, _, rfl⟩
set_option maxHeartbeats 4000000 in
theorem c_Sums_putMarks (l : Launch) (B : Nat) (M : zMem) (hT : zTy B M) (q : Nat) (hqB : q < B) (hqk : (zsh M q).1 = 7 + 3) (x0 : Int32) : zC l m_Sums_putMarks 0 0 [.ref q, .int x0] M (zqV B M []) := by
  refine zC_of (L0 := [some (.ref q), some (.int x0), none]) md_Sums_putMarks (Nat.le_of_ble_eq_true rfl) rfl ?_ zQ0
  have hm : zMod B [] M M := zMod.rf
  refine zw_iconst (pc := 0) (v := 0) (by decide) d_Sums_putMarks_0 ?_
  refine zw_istore_n (pc := 1) (i := 2) (L2 := [some (.ref q), some (.int x0), some (.int 0)]) rfl (by decide) rfl d_Sums_putMarks_1 ?_
  obtain ⟨r4, r4f, r4B, r4k⟩ := hT.1 q 7 0 hqB hqk (by decide) (by decide) rfl
  have lp_2 : ∀ (n : Nat) (u1 : Int32) (N2 : zMem) (hn3 : zMod B [] M N2), zvu u1 (zi M r4 7) < n → zW l m_Sums_putMarks (zn M + 0, zw M + 0) N2 2 [some (.ref q), some (.int x0), some (.int u1)] [] (zqV B M []) := by
    intro n
    induction n with
    | zero =>
      intro u1 N2 hn3 h0
      exact absurd h0 (Nat.not_lt_zero _)
    | succ n ih_2 =>
      intro u1 N2 hn3 hlt_2
      refine zw_iload_n (pc := 2) (n := 2) (x := u1) rfl d_Sums_putMarks_2 ?_
      refine zw_aload_n (pc := 3) (n := 0) (x := q) rfl d_Sums_putMarks_3 ?_
      refine zc_getF hn3 (pc := 4) f_Sums_23 rfl hqk r4f d_Sums_putMarks_4 ?_
      refine zc_getI0 hn3 (pc := 7) (by decide) f_Sums_35 rfl r4k d_Sums_putMarks_7 ?_
      refine zw_icmp_ge (pc := 10) (tgt := 33) (by decide) d_Sums_putMarks_10 (fun hc_10 => ?_) (fun hc_10 => ?_)
      · exact zw_vret (S := []) (pc := 33) rfl d_Sums_putMarks_33 ⟨hn3, rfl⟩
      · refine zw_aload_n (pc := 13) (n := 0) (x := q) rfl d_Sums_putMarks_13 ?_
        obtain ⟨r5, r5f, r5B, r5k⟩ := hT.1 q 7 2 hqB hqk (by decide) (by decide) rfl
        refine zc_getF hn3 (pc := 14) f_Sums_20 rfl hqk r5f d_Sums_putMarks_14 ?_
        refine zw_iload_n (pc := 17) (n := 2) (x := u1) rfl d_Sums_putMarks_17 ?_
        refine zw_aload_n (pc := 18) (n := 0) (x := q) rfl d_Sums_putMarks_18 ?_
        refine zw_iload_n (pc := 19) (n := 1) (x := x0) rfl d_Sums_putMarks_19 ?_
        refine zw_iload_n (pc := 20) (n := 2) (x := u1) rfl d_Sums_putMarks_20 ?_
        refine zc_callV hn3 (pc := 21) [.int x0, .int u1] [.int u1, .ref r5] l_Sums_50 (c_Sums_markOf l B N2 (hT.mod hn3) q hqB (hn3.k hqk) x0 u1) rfl rfl hqk (by decide) (by decide) (Nat.le_of_ble_eq_true rfl) d_Sums_putMarks_21 (fun r8 N6 hq7 => ?_)
        obtain ⟨hk11, v10, rfl⟩ := hq7
        have hn9 : zMod B [] M N6 := hn3.call hk11 (by decide)
        show zW l m_Sums_putMarks (zn M + 0, zw M + 0) N6 24 [some (.ref q), some (.int x0), some (.int u1)] [.long v10, .int u1, .ref r5] (zqV B M [])
        refine zc_callV hn9 (pc := 24) [.int u1, .long v10] [] l_Sums_31 (c_LongRow_put l B N6 (hT.mod hn9) r5 r5B (hn9.k r5k) u1 v10) rfl rfl r5k (by decide) (by decide) (Nat.le_of_ble_eq_true rfl) d_Sums_putMarks_24 (fun r15 N13 hq14 => ?_)
        obtain ⟨hk18, rfl⟩ := hq14
        have hn16 : zMod B [] M N13 := hn9.call hk18 (by decide)
        show zW l m_Sums_putMarks (zn M + 0, zw M + 0) N13 27 [some (.ref q), some (.int x0), some (.int u1)] [] (zqV B M [])
        refine zw_iinc (pc := 27) (i := 2) (x := u1) (v := u1 + Int32.ofInt 1) (L2 := [some (.ref q), some (.int x0), some (.int (u1 + Int32.ofInt 1))]) rfl rfl (by decide) rfl d_Sums_putMarks_27 ?_
        refine zw_goto (pc := 30) (tgt := 2) (by decide) d_Sums_putMarks_30 ?_
        exact ih_2 (u1 + Int32.ofInt 1) N13 hn16 (Nat.lt_of_lt_of_le (z_up hc_10) (Nat.le_of_lt_succ hlt_2))
  exact lp_2 _ 0 M hm (Nat.lt_succ_self _)
set_option maxHeartbeats 4000000 in
theorem c_Sorts_normSize (l : Launch) (B : Nat) (M : zMem) (hT : zTy B M) (q : Nat) (hqB : q < B) (hqk : (zsh M q).1 = 6 + 3) (x0 : Int32) : zC l m_Sorts_normSize 0 0 [.ref q, .int x0] M (zqI B M []) := by
  refine zC_of (L0 := [some (.ref q), some (.int x0)]) md_Sorts_normSize (Nat.le_of_ble_eq_true rfl) rfl ?_ zQ0
  have hm : zMod B [] M M := zMod.rf
  refine zw_aload_n (pc := 0) (n := 0) (x := q) rfl d_Sorts_normSize_0 ?_
  obtain ⟨r1, r1f, r1B, r1k⟩ := hT.1 q 6 0 hqB hqk (by decide) (by decide) rfl
  refine zc_getF hm (pc := 1) f_Sorts_32 rfl hqk r1f d_Sorts_normSize_1 ?_
  refine zw_aload_n (pc := 4) (n := 0) (x := q) rfl d_Sorts_normSize_4 ?_
  obtain ⟨r2, r2f, r2B, r2k⟩ := hT.1 q 6 4 hqB hqk (by decide) (by decide) rfl
  refine zc_getF hm (pc := 5) f_Sorts_26 rfl hqk r2f d_Sorts_normSize_5 ?_
  refine zw_iload_n (pc := 8) (n := 1) (x := x0) rfl d_Sorts_normSize_8 ?_
  refine zc_callV hm (pc := 9) [.int x0] [.ref r1] l_Sorts_49 (c_IntRow_at l B M (hT.mod hm) r2 r2B (hm.k r2k) x0) rfl rfl r2k (by decide) (by decide) (Nat.le_of_ble_eq_true rfl) d_Sorts_normSize_9 (fun r5 N3 hq4 => ?_)
  obtain ⟨hk8, v7, rfl⟩ := hq4
  have hn6 : zMod B [] M N3 := hm.call hk8 (by decide)
  show zW l m_Sorts_normSize (zn M + 0, zw M + 0) N3 12 [some (.ref q), some (.int x0)] [.int v7, .ref r1] (zqI B M [])
  refine zc_callV hn6 (pc := 12) [.int v7] [] l_Sorts_102 (c_Group_normOf l B N3 (hT.mod hn6) r1 r1B (hn6.k r1k) v7) rfl rfl r1k (by decide) (by decide) (Nat.le_of_ble_eq_true rfl) d_Sorts_normSize_12 (fun r12 N10 hq11 => ?_)
  obtain ⟨hk15, v14, rfl⟩ := hq11
  have hn13 : zMod B [] M N10 := hn6.call hk15 (by decide)
  show zW l m_Sorts_normSize (zn M + 0, zw M + 0) N10 15 [some (.ref q), some (.int x0)] [.int v14] (zqI B M [])
  refine zc_callS hn13 (pc := 15) [.int v14] [] l_Sorts_78 (c_Integer_bitCount l B N10 (hT.mod hn13) v14) rfl rfl (by decide) (Nat.le_of_ble_eq_true rfl) d_Sorts_normSize_15 (fun r19 N17 hq18 => ?_)
  obtain ⟨hq18, ex23⟩ := hq18
  obtain ⟨hk22, v21, rfl⟩ := hq18
  have hn20 : zMod B [] M N17 := hn13.call hk22 (by decide)
  show zW l m_Sorts_normSize (zn M + 0, zw M + 0) N17 18 [some (.ref q), some (.int x0)] [.int v21] (zqI B M [])
  exact zw_iret (S := []) (pc := 18) (ty := .int) rfl rfl d_Sorts_normSize_18 ⟨hn20, _, rfl⟩
set_option maxHeartbeats 4000000 in
theorem c_Sorts_sumOverNorm (l : Launch) (B : Nat) (M : zMem) (hT : zTy B M) (q : Nat) (hqB : q < B) (hqk : (zsh M q).1 = 6 + 3) (x0 : Int32) (a1 : Nat) (a1B : a1 < B) (a1k : (zsh M a1).1 = 8 + 3) : zC l m_Sorts_sumOverNorm 0 0 [.ref q, .int x0, .ref a1] M (zqJ B M []) := by
  refine zC_of (L0 := [some (.ref q), some (.int x0), some (.ref a1), none, none, none, none, none]) md_Sorts_sumOverNorm (Nat.le_of_ble_eq_true rfl) rfl ?_ zQ0
  have hm : zMod B [] M M := zMod.rf
  refine zw_aload_n (pc := 0) (n := 0) (x := q) rfl d_Sorts_sumOverNorm_0 ?_
  obtain ⟨r1, r1f, r1B, r1k⟩ := hT.1 q 6 4 hqB hqk (by decide) (by decide) rfl
  refine zc_getF hm (pc := 1) f_Sorts_26 rfl hqk r1f d_Sorts_sumOverNorm_1 ?_
  refine zw_iload_n (pc := 4) (n := 1) (x := x0) rfl d_Sorts_sumOverNorm_4 ?_
  refine zc_callV hm (pc := 5) [.int x0] [] l_Sorts_49 (c_IntRow_at l B M (hT.mod hm) r1 r1B (hm.k r1k) x0) rfl rfl r1k (by decide) (by decide) (Nat.le_of_ble_eq_true rfl) d_Sorts_sumOverNorm_5 (fun r4 N2 hq3 => ?_)
  obtain ⟨hk7, v6, rfl⟩ := hq3
  have hn5 : zMod B [] M N2 := hm.call hk7 (by decide)
  show zW l m_Sorts_sumOverNorm (zn M + 0, zw M + 0) N2 8 [some (.ref q), some (.int x0), some (.ref a1), none, none, none, none, none] [.int v6] (zqJ B M [])
  refine zw_istore_n (pc := 8) (i := 3) (L2 := [some (.ref q), some (.int x0), some (.ref a1), some (.int v6), none, none, none, none]) rfl (by decide) rfl d_Sorts_sumOverNorm_8 ?_
  refine zw_aload_n (pc := 9) (n := 0) (x := q) rfl d_Sorts_sumOverNorm_9 ?_
  obtain ⟨r9, r9f, r9B, r9k⟩ := hT.1 q 6 0 hqB hqk (by decide) (by decide) rfl
  refine zc_getF hn5 (pc := 10) f_Sorts_32 rfl hqk r9f d_Sorts_sumOverNorm_10 ?_
  refine zw_iload_n (pc := 13) (n := 3) (x := v6) rfl d_Sorts_sumOverNorm_13 ?_
  refine zc_callV hn5 (pc := 14) [.int v6] [] l_Sorts_102 (c_Group_normOf l B N2 (hT.mod hn5) r9 r9B (hn5.k r9k) v6) rfl rfl r9k (by decide) (by decide) (Nat.le_of_ble_eq_true rfl) d_Sorts_sumOverNorm_14 (fun r12 N10 hq11 => ?_)
  obtain ⟨hk15, v14, rfl⟩ := hq11
  have hn13 : zMod B [] M N10 := hn5.call hk15 (by decide)
  show zW l m_Sorts_sumOverNorm (zn M + 0, zw M + 0) N10 17 [some (.ref q), some (.int x0), some (.ref a1), some (.int v6), none, none, none, none] [.int v14] (zqJ B M [])
  refine zw_istore (pc := 17) (i := 4) (L2 := [some (.ref q), some (.int x0), some (.ref a1), some (.int v6), some (.int v14), none, none, none]) (by decide) rfl d_Sorts_sumOverNorm_17 ?_
  refine zw_lconst (pc := 19) (v := 0) (by decide) d_Sorts_sumOverNorm_19 ?_
  refine zw_lstore (pc := 20) (i := 5) (L2 := [some (.ref q), some (.int x0), some (.ref a1), some (.int v6), some (.int v14), some (.long 0), none, none]) (by decide) rfl d_Sorts_sumOverNorm_20 ?_
  refine zw_iconst (pc := 22) (v := 0) (by decide) d_Sorts_sumOverNorm_22 ?_
  refine zw_istore (pc := 23) (i := 7) (L2 := [some (.ref q), some (.int x0), some (.ref a1), some (.int v6), some (.int v14), some (.long 0), none, some (.int 0)]) (by decide) rfl d_Sorts_sumOverNorm_23 ?_
  have lp_25 : ∀ (n : Nat) (u17 : Int64) (u18 : Int32) (N19 : zMem) (hn20 : zMod B [] M N19), zvu u18 (zi M r9 7) < n → zW l m_Sorts_sumOverNorm (zn M + 0, zw M + 0) N19 25 [some (.ref q), some (.int x0), some (.ref a1), some (.int v6), some (.int v14), some (.long u17), none, some (.int u18)] [] (zqJ B M []) := by
    intro n
    induction n with
    | zero =>
      intro u17 u18 N19 hn20 h0
      exact absurd h0 (Nat.not_lt_zero _)
    | succ n ih_25 =>
      intro u17 u18 N19 hn20 hlt_25
      refine zw_iload (pc := 25) (i := 7) (x := u18) rfl d_Sorts_sumOverNorm_25 ?_
      refine zw_aload_n (pc := 27) (n := 0) (x := q) rfl d_Sorts_sumOverNorm_27 ?_
      refine zc_getF hn20 (pc := 28) f_Sorts_32 rfl hqk r9f d_Sorts_sumOverNorm_28 ?_
      refine zc_getI0 hn20 (pc := 31) (by decide) f_Sorts_44 rfl r9k d_Sorts_sumOverNorm_31 ?_
      refine zw_icmp_ge (pc := 34) (tgt := 72) (by decide) d_Sorts_sumOverNorm_34 (fun hc_34 => ?_) (fun hc_34 => ?_)
      · refine zw_lload (pc := 72) (i := 5) (x := u17) rfl d_Sorts_sumOverNorm_72 ?_
        exact zw_lret (S := []) (pc := 74) rfl d_Sorts_sumOverNorm_74 ⟨hn20, _, rfl⟩
      · refine zw_iload (pc := 37) (i := 4) (x := v14) rfl d_Sorts_sumOverNorm_37 ?_
        refine zw_iload (pc := 39) (i := 7) (x := u18) rfl d_Sorts_sumOverNorm_39 ?_
        refine zc_callS hn20 (pc := 41) [.int v14, .int u18] [] l_Sorts_53 (c_T_isIn l B N19 (hT.mod hn20) v14 u18) rfl rfl (by decide) (Nat.le_of_ble_eq_true rfl) d_Sorts_sumOverNorm_41 (fun r23 N21 hq22 => ?_)
        obtain ⟨hk26, v25, rfl, zv25⟩ := hq22
        have hn24 : zMod B [] M N21 := hn20.call hk26 (by decide)
        show zW l m_Sorts_sumOverNorm (zn M + 0, zw M + 0) N21 44 [some (.ref q), some (.int x0), some (.ref a1), some (.int v6), some (.int v14), some (.long u17), none, some (.int u18)] [.int v25] (zqJ B M [])
        have j_66 : ∀ (u28 : Int64) (N29 : zMem) (hn30 : zMod B [] M N29), zW l m_Sorts_sumOverNorm (zn M + 0, zw M + 0) N29 66 [some (.ref q), some (.int x0), some (.ref a1), some (.int v6), some (.int v14), some (.long u28), none, some (.int u18)] [] (zqJ B M []) := by
          intro u28 N29 hn30
          refine zw_iinc (pc := 66) (i := 7) (x := u18) (v := u18 + Int32.ofInt 1) (L2 := [some (.ref q), some (.int x0), some (.ref a1), some (.int v6), some (.int v14), some (.long u28), none, some (.int (u18 + Int32.ofInt 1))]) rfl rfl (by decide) rfl d_Sorts_sumOverNorm_66 ?_
          refine zw_goto (pc := 69) (tgt := 25) (by decide) d_Sorts_sumOverNorm_69 ?_
          exact ih_25 u28 (u18 + Int32.ofInt 1) N29 hn30 (Nat.lt_of_lt_of_le (z_up hc_34) (Nat.le_of_lt_succ hlt_25))
        refine zw_if_eq (pc := 44) (tgt := 66) (by decide) d_Sorts_sumOverNorm_44 (fun hc_44 => ?_) (fun hc_44 => ?_)
        · exact j_66 u17 N21 hn24
        · refine zw_lload (pc := 47) (i := 5) (x := u17) rfl d_Sorts_sumOverNorm_47 ?_
          refine zw_aload_n (pc := 49) (n := 2) (x := a1) rfl d_Sorts_sumOverNorm_49 ?_
          refine zw_aload_n (pc := 50) (n := 0) (x := q) rfl d_Sorts_sumOverNorm_50 ?_
          refine zw_iload_n (pc := 51) (n := 3) (x := v6) rfl d_Sorts_sumOverNorm_51 ?_
          refine zw_iconst (pc := 52) (v := 1) (by decide) d_Sorts_sumOverNorm_52 ?_
          refine zw_iload (pc := 53) (i := 7) (x := u18) rfl d_Sorts_sumOverNorm_53 ?_
          refine zw_ishl (pc := 55) d_Sorts_sumOverNorm_55 ?_
          refine zw_ior (pc := 56) d_Sorts_sumOverNorm_56 ?_
          refine zc_callV hn24 (pc := 57) [.int (v6 ||| (1 <<< (u18 &&& 31)))] [.ref a1, .long u17] l_Sorts_112 (c_Sorts_spannedSort l B N21 (hT.mod hn24) q hqB (hn24.k hqk) (v6 ||| (1 <<< (u18 &&& 31)))) rfl rfl hqk (by decide) (by decide) (Nat.le_of_ble_eq_true rfl) d_Sorts_sumOverNorm_57 (fun r33 N31 hq32 => ?_)
          obtain ⟨hk36, v35, rfl⟩ := hq32
          have hn34 : zMod B [] M N31 := hn24.call hk36 (by decide)
          show zW l m_Sorts_sumOverNorm (zn M + 0, zw M + 0) N31 60 [some (.ref q), some (.int x0), some (.ref a1), some (.int v6), some (.int v14), some (.long u17), none, some (.int u18)] [.int v35, .ref a1, .long u17] (zqJ B M [])
          refine zc_callV hn34 (pc := 60) [.int v35] [.long u17] l_Sorts_115 (c_LongRow_at l B N31 (hT.mod hn34) a1 a1B (hn34.k a1k) v35) rfl rfl a1k (by decide) (by decide) (Nat.le_of_ble_eq_true rfl) d_Sorts_sumOverNorm_60 (fun r40 N38 hq39 => ?_)
          obtain ⟨hk43, v42, rfl⟩ := hq39
          have hn41 : zMod B [] M N38 := hn34.call hk43 (by decide)
          show zW l m_Sorts_sumOverNorm (zn M + 0, zw M + 0) N38 63 [some (.ref q), some (.int x0), some (.ref a1), some (.int v6), some (.int v14), some (.long u17), none, some (.int u18)] [.long v42, .long u17] (zqJ B M [])
          refine zw_ladd (pc := 63) d_Sorts_sumOverNorm_63 ?_
          refine zw_lstore (pc := 64) (i := 5) (L2 := [some (.ref q), some (.int x0), some (.ref a1), some (.int v6), some (.int v14), some (.long (u17 + v42)), none, some (.int u18)]) (by decide) rfl d_Sorts_sumOverNorm_64 ?_
          exact j_66 (u17 + v42) N38 hn41
  exact lp_25 _ 0 0 N10 hn13 (Nat.lt_succ_self _)
set_option maxHeartbeats 4000000 in
theorem c_T_congruence (l : Launch) (B : Nat) (M : zMem) (hT : zTy B M) (q : Nat) (hqB : q < B) (hqk : (zsh M q).1 = 0 + 3) (x0 : Int32) : zC l m_T_congruence 0 0 [.ref q, .int x0] M (zqJ B M []) := by
  refine zC_of (L0 := [some (.ref q), some (.int x0), none, none, none]) md_T_congruence (Nat.le_of_ble_eq_true rfl) rfl ?_ zQ0
  have hm : zMod B [] M M := zMod.rf
  refine zw_aload_n (pc := 0) (n := 0) (x := q) rfl d_T_congruence_0 ?_
  obtain ⟨r1, r1f, r1B, r1k⟩ := hT.1 q 0 2 hqB hqk (by decide) (by decide) rfl
  refine zc_getF hm (pc := 1) f_T_28 rfl hqk r1f d_T_congruence_1 ?_
  obtain ⟨r2, r2f, r2B, r2k⟩ := hT.1 r1 4 1 r1B r1k (by decide) (by decide) rfl
  refine zc_getF hm (pc := 4) f_T_85 rfl r1k r2f d_T_congruence_4 ?_
  refine zw_iload_n (pc := 7) (n := 1) (x := x0) rfl d_T_congruence_7 ?_
  refine zc_callV hm (pc := 8) [.int x0] [] l_T_143 (c_Sorts_hasSort l B M (hT.mod hm) r2 r2B (hm.k r2k) x0) rfl rfl r2k (by decide) (by decide) (Nat.le_of_ble_eq_true rfl) d_T_congruence_8 (fun r5 N3 hq4 => ?_)
  obtain ⟨hk8, v7, rfl, zv7⟩ := hq4
  have hn6 : zMod B [] M N3 := hm.call hk8 (by decide)
  show zW l m_T_congruence (zn M + 0, zw M + 0) N3 11 [some (.ref q), some (.int x0), none, none, none] [.int v7] (zqJ B M [])
  refine zw_if_ne (pc := 11) (tgt := 18) (by decide) d_T_congruence_11 (fun hc_11 => ?_) (fun hc_11 => ?_)
  · refine zw_aload_n (pc := 18) (n := 0) (x := q) rfl d_T_congruence_18 ?_
    refine zc_getF hn6 (pc := 19) f_T_28 rfl hqk r1f d_T_congruence_19 ?_
    obtain ⟨r10, r10f, r10B, r10k⟩ := hT.1 r1 4 2 r1B r1k (by decide) (by decide) rfl
    refine zc_getF hn6 (pc := 22) f_T_169 rfl r1k r10f d_T_congruence_22 ?_
    refine zw_iconst (pc := 25) (v := 0) (by decide) d_T_congruence_25 ?_
    refine zc_callV hn6 (pc := 26) [.int 0] [] l_T_256 (c_Sums_putMarks l B N3 (hT.mod hn6) r10 r10B (hn6.k r10k) 0) rfl rfl r10k (by decide) (by decide) (Nat.le_of_ble_eq_true rfl) d_T_congruence_26 (fun r13 N11 hq12 => ?_)
    obtain ⟨hk16, rfl⟩ := hq12
    have hn14 : zMod B [] M N11 := hn6.call hk16 (by decide)
    show zW l m_T_congruence (zn M + 0, zw M + 0) N11 29 [some (.ref q), some (.int x0), none, none, none] [] (zqJ B M [])
    refine zw_aload_n (pc := 29) (n := 0) (x := q) rfl d_T_congruence_29 ?_
    refine zc_getF hn14 (pc := 30) f_T_28 rfl hqk r1f d_T_congruence_30 ?_
    refine zc_getF hn14 (pc := 33) f_T_85 rfl r1k r2f d_T_congruence_33 ?_
    refine zw_iload_n (pc := 36) (n := 1) (x := x0) rfl d_T_congruence_36 ?_
    refine zc_callV hn14 (pc := 37) [.int x0] [] l_T_259 (c_Sorts_normSize l B N11 (hT.mod hn14) r2 r2B (hn14.k r2k) x0) rfl rfl r2k (by decide) (by decide) (Nat.le_of_ble_eq_true rfl) d_T_congruence_37 (fun r20 N18 hq19 => ?_)
    obtain ⟨hk23, v22, rfl⟩ := hq19
    have hn21 : zMod B [] M N18 := hn14.call hk23 (by decide)
    show zW l m_T_congruence (zn M + 0, zw M + 0) N18 40 [some (.ref q), some (.int x0), none, none, none] [.int v22] (zqJ B M [])
    refine zw_istore_n (pc := 40) (i := 2) (L2 := [some (.ref q), some (.int x0), some (.int v22), none, none]) rfl (by decide) rfl d_T_congruence_40 ?_
    refine zw_aload_n (pc := 41) (n := 0) (x := q) rfl d_T_congruence_41 ?_
    refine zc_getF hn21 (pc := 42) f_T_28 rfl hqk r1f d_T_congruence_42 ?_
    refine zc_getF hn21 (pc := 45) f_T_85 rfl r1k r2f d_T_congruence_45 ?_
    refine zw_iload_n (pc := 48) (n := 1) (x := x0) rfl d_T_congruence_48 ?_
    refine zw_aload_n (pc := 49) (n := 0) (x := q) rfl d_T_congruence_49 ?_
    refine zc_getF hn21 (pc := 50) f_T_28 rfl hqk r1f d_T_congruence_50 ?_
    refine zc_getF hn21 (pc := 53) f_T_169 rfl r1k r10f d_T_congruence_53 ?_
    obtain ⟨r25, r25f, r25B, r25k⟩ := hT.1 r10 7 2 r10B r10k (by decide) (by decide) rfl
    refine zc_getF hn21 (pc := 56) f_T_262 rfl r10k r25f d_T_congruence_56 ?_
    refine zc_callV hn21 (pc := 59) [.int x0, .ref r25] [] l_T_266 (c_Sorts_sumOverNorm l B N18 (hT.mod hn21) r2 r2B (hn21.k r2k) x0 r25 r25B (hn21.k r25k)) rfl rfl r2k (by decide) (by decide) (Nat.le_of_ble_eq_true rfl) d_T_congruence_59 (fun r28 N26 hq27 => ?_)
    obtain ⟨hk31, v30, rfl⟩ := hq27
    have hn29 : zMod B [] M N26 := hn21.call hk31 (by decide)
    show zW l m_T_congruence (zn M + 0, zw M + 0) N26 62 [some (.ref q), some (.int x0), some (.int v22), none, none] [.long v30] (zqJ B M [])
    refine zw_lstore_n (pc := 62) (i := 3) (L2 := [some (.ref q), some (.int x0), some (.int v22), some (.long v30), none]) rfl (by decide) rfl d_T_congruence_62 ?_
    refine zw_iload_n (pc := 63) (n := 2) (x := v22) rfl d_T_congruence_63 ?_
    refine zw_if_le (pc := 64) (tgt := 74) (by decide) d_T_congruence_64 (fun hc_64 => ?_) (fun hc_64 => ?_)
    · refine zw_ldc2 (pc := 74) k_T_248 d_T_congruence_74 ?_
      exact zw_lret (S := []) (pc := 77) rfl d_T_congruence_77 ⟨hn29, _, rfl⟩
    · refine zw_lload_n (pc := 67) (n := 3) (x := v30) rfl d_T_congruence_67 ?_
      refine zw_iload_n (pc := 68) (n := 2) (x := v22) rfl d_T_congruence_68 ?_
      refine zw_i2l (pc := 69) d_T_congruence_69 ?_
      refine zw_ldiv (pc := 70) (z_ne2 (z_ne1 hc_64)) d_T_congruence_70 ?_
      refine zw_goto (pc := 71) (tgt := 77) (by decide) d_T_congruence_71 ?_
      exact zw_lret (S := []) (pc := 77) rfl d_T_congruence_77 ⟨hn29, _, rfl⟩
  · refine zw_ldc2 (pc := 14) k_T_248 d_T_congruence_14 ?_
    exact zw_lret (S := []) (pc := 17) rfl d_T_congruence_17 ⟨hn6, _, rfl⟩
set_option maxHeartbeats 4000000 in
theorem c_Sums_hasNoneBelow (l : Launch) (B : Nat) (M : zMem) (hT : zTy B M) (q : Nat) (hqB : q < B) (hqk : (zsh M q).1 = 7 + 3) (x0 : Int32) : zC l m_Sums_hasNoneBelow 0 0 [.ref q, .int x0] M (zqZ B M []) := by
  refine zC_of (L0 := [some (.ref q), some (.int x0), none]) md_Sums_hasNoneBelow (Nat.le_of_ble_eq_true rfl) rfl ?_ zQ0
  have hm : zMod B [] M M := zMod.rf
  refine zw_iconst (pc := 0) (v := 0) (by decide) d_Sums_hasNoneBelow_0 ?_
  refine zw_istore_n (pc := 1) (i := 2) (L2 := [some (.ref q), some (.int x0), some (.int 0)]) rfl (by decide) rfl d_Sums_hasNoneBelow_1 ?_
  obtain ⟨r4, r4f, r4B, r4k⟩ := hT.1 q 7 0 hqB hqk (by decide) (by decide) rfl
  have lp_2 : ∀ (n : Nat) (u1 : Int32) (N2 : zMem) (hn3 : zMod B [] M N2), zvu u1 (zi M r4 7) < n → zW l m_Sums_hasNoneBelow (zn M + 0, zw M + 0) N2 2 [some (.ref q), some (.int x0), some (.int u1)] [] (zqZ B M []) := by
    intro n
    induction n with
    | zero =>
      intro u1 N2 hn3 h0
      exact absurd h0 (Nat.not_lt_zero _)
    | succ n ih_2 =>
      intro u1 N2 hn3 hlt_2
      refine zw_iload_n (pc := 2) (n := 2) (x := u1) rfl d_Sums_hasNoneBelow_2 ?_
      refine zw_aload_n (pc := 3) (n := 0) (x := q) rfl d_Sums_hasNoneBelow_3 ?_
      refine zc_getF hn3 (pc := 4) f_Sums_23 rfl hqk r4f d_Sums_hasNoneBelow_4 ?_
      refine zc_getI0 hn3 (pc := 7) (by decide) f_Sums_35 rfl r4k d_Sums_hasNoneBelow_7 ?_
      refine zw_icmp_ge (pc := 10) (tgt := 32) (by decide) d_Sums_hasNoneBelow_10 (fun hc_10 => ?_) (fun hc_10 => ?_)
      · refine zw_iconst (pc := 32) (v := 1) (by decide) d_Sums_hasNoneBelow_32 ?_
        exact zw_iret (S := []) (pc := 33) (ty := .boolean) rfl (z_narZ (Or.inr rfl)) d_Sums_hasNoneBelow_33 ⟨hn3, _, rfl, Or.inr rfl⟩
      · refine zw_aload_n (pc := 13) (n := 0) (x := q) rfl d_Sums_hasNoneBelow_13 ?_
        refine zw_iload_n (pc := 14) (n := 1) (x := x0) rfl d_Sums_hasNoneBelow_14 ?_
        refine zw_iload_n (pc := 15) (n := 2) (x := u1) rfl d_Sums_hasNoneBelow_15 ?_
        refine zc_callV hn3 (pc := 16) [.int x0, .int u1] [] l_Sums_67 (c_Sums_numberAt l B N2 (hT.mod hn3) q hqB (hn3.k hqk) x0 u1) rfl rfl hqk (by decide) (by decide) (Nat.le_of_ble_eq_true rfl) d_Sums_hasNoneBelow_16 (fun r7 N5 hq6 => ?_)
        obtain ⟨hk10, v9, rfl⟩ := hq6
        have hn8 : zMod B [] M N5 := hn3.call hk10 (by decide)
        show zW l m_Sums_hasNoneBelow (zn M + 0, zw M + 0) N5 19 [some (.ref q), some (.int x0), some (.int u1)] [.long v9] (zqZ B M [])
        refine zw_lconst (pc := 19) (v := 0) (by decide) d_Sums_hasNoneBelow_19 ?_
        refine zw_lcmp (pc := 20) d_Sums_hasNoneBelow_20 ?_
        refine zw_if_ge (pc := 21) (tgt := 26) (by decide) d_Sums_hasNoneBelow_21 (fun hc_21 => ?_) (fun hc_21 => ?_)
        · refine zw_iinc (pc := 26) (i := 2) (x := u1) (v := u1 + Int32.ofInt 1) (L2 := [some (.ref q), some (.int x0), some (.int (u1 + Int32.ofInt 1))]) rfl rfl (by decide) rfl d_Sums_hasNoneBelow_26 ?_
          refine zw_goto (pc := 29) (tgt := 2) (by decide) d_Sums_hasNoneBelow_29 ?_
          exact ih_2 (u1 + Int32.ofInt 1) N5 hn8 (Nat.lt_of_lt_of_le (z_up hc_10) (Nat.le_of_lt_succ hlt_2))
        · refine zw_iconst (pc := 24) (v := 0) (by decide) d_Sums_hasNoneBelow_24 ?_
          exact zw_iret (S := []) (pc := 25) (ty := .boolean) rfl (z_narZ (Or.inl rfl)) d_Sums_hasNoneBelow_25 ⟨hn8, _, rfl, Or.inl rfl⟩
  exact lp_2 _ 0 M hm (Nat.lt_succ_self _)
set_option maxHeartbeats 4000000 in
theorem c_Sums_marksAre (l : Launch) (B : Nat) (M : zMem) (hT : zTy B M) (q : Nat) (hqB : q < B) (hqk : (zsh M q).1 = 7 + 3) (x0 : Int32) (x1 : Int32) : zC l m_Sums_marksAre 0 0 [.ref q, .int x0, .int x1] M (zqZ B M []) := by
  refine zC_of (L0 := [some (.ref q), some (.int x0), some (.int x1), none]) md_Sums_marksAre (Nat.le_of_ble_eq_true rfl) rfl ?_ zQ0
  have hm : zMod B [] M M := zMod.rf
  refine zw_iconst (pc := 0) (v := 0) (by decide) d_Sums_marksAre_0 ?_
  refine zw_istore_n (pc := 1) (i := 3) (L2 := [some (.ref q), some (.int x0), some (.int x1), some (.int 0)]) rfl (by decide) rfl d_Sums_marksAre_1 ?_
  obtain ⟨r4, r4f, r4B, r4k⟩ := hT.1 q 7 0 hqB hqk (by decide) (by decide) rfl
  have lp_2 : ∀ (n : Nat) (u1 : Int32) (N2 : zMem) (hn3 : zMod B [] M N2), zvu u1 (zi M r4 7) < n → zW l m_Sums_marksAre (zn M + 0, zw M + 0) N2 2 [some (.ref q), some (.int x0), some (.int x1), some (.int u1)] [] (zqZ B M []) := by
    intro n
    induction n with
    | zero =>
      intro u1 N2 hn3 h0
      exact absurd h0 (Nat.not_lt_zero _)
    | succ n ih_2 =>
      intro u1 N2 hn3 hlt_2
      refine zw_iload_n (pc := 2) (n := 3) (x := u1) rfl d_Sums_marksAre_2 ?_
      refine zw_aload_n (pc := 3) (n := 0) (x := q) rfl d_Sums_marksAre_3 ?_
      refine zc_getF hn3 (pc := 4) f_Sums_23 rfl hqk r4f d_Sums_marksAre_4 ?_
      refine zc_getI0 hn3 (pc := 7) (by decide) f_Sums_35 rfl r4k d_Sums_marksAre_7 ?_
      refine zw_icmp_ge (pc := 10) (tgt := 49) (by decide) d_Sums_marksAre_10 (fun hc_10 => ?_) (fun hc_10 => ?_)
      · refine zw_iconst (pc := 49) (v := 1) (by decide) d_Sums_marksAre_49 ?_
        exact zw_iret (S := []) (pc := 50) (ty := .boolean) rfl (z_narZ (Or.inr rfl)) d_Sums_marksAre_50 ⟨hn3, _, rfl, Or.inr rfl⟩
      · refine zw_aload_n (pc := 13) (n := 0) (x := q) rfl d_Sums_marksAre_13 ?_
        obtain ⟨r5, r5f, r5B, r5k⟩ := hT.1 q 7 2 hqB hqk (by decide) (by decide) rfl
        refine zc_getF hn3 (pc := 14) f_Sums_20 rfl hqk r5f d_Sums_marksAre_14 ?_
        refine zw_iload_n (pc := 17) (n := 3) (x := u1) rfl d_Sums_marksAre_17 ?_
        refine zc_callV hn3 (pc := 18) [.int u1] [] l_Sums_27 (c_LongRow_at l B N2 (hT.mod hn3) r5 r5B (hn3.k r5k) u1) rfl rfl r5k (by decide) (by decide) (Nat.le_of_ble_eq_true rfl) d_Sums_marksAre_18 (fun r8 N6 hq7 => ?_)
        obtain ⟨hk11, v10, rfl⟩ := hq7
        have hn9 : zMod B [] M N6 := hn3.call hk11 (by decide)
        show zW l m_Sums_marksAre (zn M + 0, zw M + 0) N6 21 [some (.ref q), some (.int x0), some (.int x1), some (.int u1)] [.long v10] (zqZ B M [])
        refine zw_iload_n (pc := 21) (n := 1) (x := x0) rfl d_Sums_marksAre_21 ?_
        refine zw_i2l (pc := 22) d_Sums_marksAre_22 ?_
        refine zw_lcmp (pc := 23) d_Sums_marksAre_23 ?_
        have j_43 : ∀ (N13 : zMem) (hn14 : zMod B [] M N13), zW l m_Sums_marksAre (zn M + 0, zw M + 0) N13 43 [some (.ref q), some (.int x0), some (.int x1), some (.int u1)] [] (zqZ B M []) := by
          intro N13 hn14
          refine zw_iinc (pc := 43) (i := 3) (x := u1) (v := u1 + Int32.ofInt 1) (L2 := [some (.ref q), some (.int x0), some (.int x1), some (.int (u1 + Int32.ofInt 1))]) rfl rfl (by decide) rfl d_Sums_marksAre_43 ?_
          refine zw_goto (pc := 46) (tgt := 2) (by decide) d_Sums_marksAre_46 ?_
          exact ih_2 (u1 + Int32.ofInt 1) N13 hn14 (Nat.lt_of_lt_of_le (z_up hc_10) (Nat.le_of_lt_succ hlt_2))
        refine zw_if_eq (pc := 24) (tgt := 43) (by decide) d_Sums_marksAre_24 (fun hc_24 => ?_) (fun hc_24 => ?_)
        · exact j_43 N6 hn9
        · refine zw_aload_n (pc := 27) (n := 0) (x := q) rfl d_Sums_marksAre_27 ?_
          refine zc_getF hn9 (pc := 28) f_Sums_20 rfl hqk r5f d_Sums_marksAre_28 ?_
          refine zw_iload_n (pc := 31) (n := 3) (x := u1) rfl d_Sums_marksAre_31 ?_
          refine zc_callV hn9 (pc := 32) [.int u1] [] l_Sums_27 (c_LongRow_at l B N6 (hT.mod hn9) r5 r5B (hn9.k r5k) u1) rfl rfl r5k (by decide) (by decide) (Nat.le_of_ble_eq_true rfl) d_Sums_marksAre_32 (fun r17 N15 hq16 => ?_)
          obtain ⟨hk20, v19, rfl⟩ := hq16
          have hn18 : zMod B [] M N15 := hn9.call hk20 (by decide)
          show zW l m_Sums_marksAre (zn M + 0, zw M + 0) N15 35 [some (.ref q), some (.int x0), some (.int x1), some (.int u1)] [.long v19] (zqZ B M [])
          refine zw_iload_n (pc := 35) (n := 2) (x := x1) rfl d_Sums_marksAre_35 ?_
          refine zw_i2l (pc := 36) d_Sums_marksAre_36 ?_
          refine zw_lcmp (pc := 37) d_Sums_marksAre_37 ?_
          refine zw_if_eq (pc := 38) (tgt := 43) (by decide) d_Sums_marksAre_38 (fun hc_38 => ?_) (fun hc_38 => ?_)
          · exact j_43 N15 hn18
          · refine zw_iconst (pc := 41) (v := 0) (by decide) d_Sums_marksAre_41 ?_
            exact zw_iret (S := []) (pc := 42) (ty := .boolean) rfl (z_narZ (Or.inl rfl)) d_Sums_marksAre_42 ⟨hn18, _, rfl, Or.inl rfl⟩
  exact lp_2 _ 0 M hm (Nat.lt_succ_self _)
set_option maxHeartbeats 4000000 in
theorem c_Sums_hasMarkNought (l : Launch) (B : Nat) (M : zMem) (hT : zTy B M) (q : Nat) (hqB : q < B) (hqk : (zsh M q).1 = 7 + 3) : zC l m_Sums_hasMarkNought 0 0 [.ref q] M (zqZ B M []) := by
  refine zC_of (L0 := [some (.ref q), none]) md_Sums_hasMarkNought (Nat.le_of_ble_eq_true rfl) rfl ?_ zQ0
  have hm : zMod B [] M M := zMod.rf
  refine zw_iconst (pc := 0) (v := 0) (by decide) d_Sums_hasMarkNought_0 ?_
  refine zw_istore_n (pc := 1) (i := 1) (L2 := [some (.ref q), some (.int 0)]) rfl (by decide) rfl d_Sums_hasMarkNought_1 ?_
  obtain ⟨r4, r4f, r4B, r4k⟩ := hT.1 q 7 0 hqB hqk (by decide) (by decide) rfl
  have lp_2 : ∀ (n : Nat) (u1 : Int32) (N2 : zMem) (hn3 : zMod B [] M N2), zvu u1 (zi M r4 7) < n → zW l m_Sums_hasMarkNought (zn M + 0, zw M + 0) N2 2 [some (.ref q), some (.int u1)] [] (zqZ B M []) := by
    intro n
    induction n with
    | zero =>
      intro u1 N2 hn3 h0
      exact absurd h0 (Nat.not_lt_zero _)
    | succ n ih_2 =>
      intro u1 N2 hn3 hlt_2
      refine zw_iload_n (pc := 2) (n := 1) (x := u1) rfl d_Sums_hasMarkNought_2 ?_
      refine zw_aload_n (pc := 3) (n := 0) (x := q) rfl d_Sums_hasMarkNought_3 ?_
      refine zc_getF hn3 (pc := 4) f_Sums_23 rfl hqk r4f d_Sums_hasMarkNought_4 ?_
      refine zc_getI0 hn3 (pc := 7) (by decide) f_Sums_35 rfl r4k d_Sums_hasMarkNought_7 ?_
      refine zw_icmp_ge (pc := 10) (tgt := 34) (by decide) d_Sums_hasMarkNought_10 (fun hc_10 => ?_) (fun hc_10 => ?_)
      · refine zw_iconst (pc := 34) (v := 0) (by decide) d_Sums_hasMarkNought_34 ?_
        exact zw_iret (S := []) (pc := 35) (ty := .boolean) rfl (z_narZ (Or.inl rfl)) d_Sums_hasMarkNought_35 ⟨hn3, _, rfl, Or.inl rfl⟩
      · refine zw_aload_n (pc := 13) (n := 0) (x := q) rfl d_Sums_hasMarkNought_13 ?_
        obtain ⟨r5, r5f, r5B, r5k⟩ := hT.1 q 7 2 hqB hqk (by decide) (by decide) rfl
        refine zc_getF hn3 (pc := 14) f_Sums_20 rfl hqk r5f d_Sums_hasMarkNought_14 ?_
        refine zw_iload_n (pc := 17) (n := 1) (x := u1) rfl d_Sums_hasMarkNought_17 ?_
        refine zc_callV hn3 (pc := 18) [.int u1] [] l_Sums_27 (c_LongRow_at l B N2 (hT.mod hn3) r5 r5B (hn3.k r5k) u1) rfl rfl r5k (by decide) (by decide) (Nat.le_of_ble_eq_true rfl) d_Sums_hasMarkNought_18 (fun r8 N6 hq7 => ?_)
        obtain ⟨hk11, v10, rfl⟩ := hq7
        have hn9 : zMod B [] M N6 := hn3.call hk11 (by decide)
        show zW l m_Sums_hasMarkNought (zn M + 0, zw M + 0) N6 21 [some (.ref q), some (.int u1)] [.long v10] (zqZ B M [])
        refine zw_lconst (pc := 21) (v := 0) (by decide) d_Sums_hasMarkNought_21 ?_
        refine zw_lcmp (pc := 22) d_Sums_hasMarkNought_22 ?_
        refine zw_if_ne (pc := 23) (tgt := 28) (by decide) d_Sums_hasMarkNought_23 (fun hc_23 => ?_) (fun hc_23 => ?_)
        · refine zw_iinc (pc := 28) (i := 1) (x := u1) (v := u1 + Int32.ofInt 1) (L2 := [some (.ref q), some (.int (u1 + Int32.ofInt 1))]) rfl rfl (by decide) rfl d_Sums_hasMarkNought_28 ?_
          refine zw_goto (pc := 31) (tgt := 2) (by decide) d_Sums_hasMarkNought_31 ?_
          exact ih_2 (u1 + Int32.ofInt 1) N6 hn9 (Nat.lt_of_lt_of_le (z_up hc_10) (Nat.le_of_lt_succ hlt_2))
        · refine zw_iconst (pc := 26) (v := 1) (by decide) d_Sums_hasMarkNought_26 ?_
          exact zw_iret (S := []) (pc := 27) (ty := .boolean) rfl (z_narZ (Or.inr rfl)) d_Sums_hasMarkNought_27 ⟨hn9, _, rfl, Or.inr rfl⟩
  exact lp_2 _ 0 M hm (Nat.lt_succ_self _)
set_option maxHeartbeats 4000000 in
theorem c_T_is (l : Launch) (B : Nat) (M : zMem) (hT : zTy B M) (q : Nat) (hqB : q < B) (hqk : (zsh M q).1 = 0 + 3) (x0 : Int32) : zC l m_T_is 0 0 [.ref q, .int x0] M (zqI B M []) := by
  refine zC_of (L0 := [some (.ref q), some (.int x0), none]) md_T_is (Nat.le_of_ble_eq_true rfl) rfl ?_ zQ0
  have hm : zMod B [] M M := zMod.rf
  refine zw_aload_n (pc := 0) (n := 0) (x := q) rfl d_T_is_0 ?_
  obtain ⟨r1, r1f, r1B, r1k⟩ := hT.1 q 0 2 hqB hqk (by decide) (by decide) rfl
  refine zc_getF hm (pc := 1) f_T_28 rfl hqk r1f d_T_is_1 ?_
  obtain ⟨r2, r2f, r2B, r2k⟩ := hT.1 r1 4 2 r1B r1k (by decide) (by decide) rfl
  refine zc_getF hm (pc := 4) f_T_169 rfl r1k r2f d_T_is_4 ?_
  refine zw_astore_n (pc := 7) (i := 2) (L2 := [some (.ref q), some (.int x0), some (.ref r2)]) rfl (by decide) rfl d_T_is_7 ?_
  refine zw_aload_n (pc := 8) (n := 2) (x := r2) rfl d_T_is_8 ?_
  refine zw_iconst (pc := 9) (v := 0) (by decide) d_T_is_9 ?_
  refine zc_callV hm (pc := 10) [.int 0] [] l_T_256 (c_Sums_putMarks l B M (hT.mod hm) r2 r2B (hm.k r2k) 0) rfl rfl r2k (by decide) (by decide) (Nat.le_of_ble_eq_true rfl) d_T_is_10 (fun r5 N3 hq4 => ?_)
  obtain ⟨hk8, rfl⟩ := hq4
  have hn6 : zMod B [] M N3 := hm.call hk8 (by decide)
  show zW l m_T_is (zn M + 0, zw M + 0) N3 13 [some (.ref q), some (.int x0), some (.ref r2)] [] (zqI B M [])
  refine zw_iload_n (pc := 13) (n := 1) (x := x0) rfl d_T_is_13 ?_
  by_cases hs_14_0 : x0 = 0
  · refine zw_tabIn (pc := 14) (x := x0) (off := 30) (tgt := 44) (by rw [hs_14_0]; decide) (by rw [hs_14_0]; decide) (by rw [hs_14_0]; rfl) (by decide) d_T_is_14 ?_
    refine zw_aload_n (pc := 44) (n := 2) (x := r2) rfl d_T_is_44 ?_
    refine zw_iconst (pc := 45) (v := 0) (by decide) d_T_is_45 ?_
    refine zc_callV hn6 (pc := 46) [.int 0] [] l_T_270 (c_Sums_hasNoneBelow l B N3 (hT.mod hn6) r2 r2B (hn6.k r2k) 0) rfl rfl r2k (by decide) (by decide) (Nat.le_of_ble_eq_true rfl) d_T_is_46 (fun r12 N10 hq11 => ?_)
    obtain ⟨hk15, v14, rfl, zv14⟩ := hq11
    have hn13 : zMod B [] M N10 := hn6.call hk15 (by decide)
    show zW l m_T_is (zn M + 0, zw M + 0) N10 49 [some (.ref q), some (.int x0), some (.ref r2)] [.int v14] (zqI B M [])
    refine zw_if_eq (pc := 49) (tgt := 56) (by decide) d_T_is_49 (fun hc_49 => ?_) (fun hc_49 => ?_)
    · refine zw_iconst (pc := 56) (v := 0) (by decide) d_T_is_56 ?_
      exact zw_iret (S := []) (pc := 57) (ty := .int) rfl rfl d_T_is_57 ⟨hn13, _, rfl⟩
    · refine zw_iconst (pc := 52) (v := 1) (by decide) d_T_is_52 ?_
      refine zw_goto (pc := 53) (tgt := 57) (by decide) d_T_is_53 ?_
      exact zw_iret (S := []) (pc := 57) (ty := .int) rfl rfl d_T_is_57 ⟨hn13, _, rfl⟩
  by_cases hs_14_1 : x0 = 1
  · refine zw_tabIn (pc := 14) (x := x0) (off := 44) (tgt := 58) (by rw [hs_14_1]; decide) (by rw [hs_14_1]; decide) (by rw [hs_14_1]; rfl) (by decide) d_T_is_14 ?_
    refine zw_aload_n (pc := 58) (n := 2) (x := r2) rfl d_T_is_58 ?_
    refine zw_iconst (pc := 59) (v := 0) (by decide) d_T_is_59 ?_
    refine zw_iconst (pc := 60) (v := 1) (by decide) d_T_is_60 ?_
    refine zc_callV hn6 (pc := 61) [.int 0, .int 1] [] l_T_273 (c_Sums_marksAre l B N3 (hT.mod hn6) r2 r2B (hn6.k r2k) 0 1) rfl rfl r2k (by decide) (by decide) (Nat.le_of_ble_eq_true rfl) d_T_is_61 (fun r19 N17 hq18 => ?_)
    obtain ⟨hk22, v21, rfl, zv21⟩ := hq18
    have hn20 : zMod B [] M N17 := hn6.call hk22 (by decide)
    show zW l m_T_is (zn M + 0, zw M + 0) N17 64 [some (.ref q), some (.int x0), some (.ref r2)] [.int v21] (zqI B M [])
    refine zw_if_eq (pc := 64) (tgt := 71) (by decide) d_T_is_64 (fun hc_64 => ?_) (fun hc_64 => ?_)
    · refine zw_iconst (pc := 71) (v := 0) (by decide) d_T_is_71 ?_
      exact zw_iret (S := []) (pc := 72) (ty := .int) rfl rfl d_T_is_72 ⟨hn20, _, rfl⟩
    · refine zw_iconst (pc := 67) (v := 1) (by decide) d_T_is_67 ?_
      refine zw_goto (pc := 68) (tgt := 72) (by decide) d_T_is_68 ?_
      exact zw_iret (S := []) (pc := 72) (ty := .int) rfl rfl d_T_is_72 ⟨hn20, _, rfl⟩
  by_cases hs_14_2 : x0 = 2
  · refine zw_tabIn (pc := 14) (x := x0) (off := 59) (tgt := 73) (by rw [hs_14_2]; decide) (by rw [hs_14_2]; decide) (by rw [hs_14_2]; rfl) (by decide) d_T_is_14 ?_
    refine zw_aload_n (pc := 73) (n := 2) (x := r2) rfl d_T_is_73 ?_
    refine zw_iconst (pc := 74) (v := (-1)) (by decide) d_T_is_74 ?_
    refine zw_iconst (pc := 75) (v := 1) (by decide) d_T_is_75 ?_
    refine zc_callV hn6 (pc := 76) [.int ((-1)), .int 1] [] l_T_273 (c_Sums_marksAre l B N3 (hT.mod hn6) r2 r2B (hn6.k r2k) ((-1)) 1) rfl rfl r2k (by decide) (by decide) (Nat.le_of_ble_eq_true rfl) d_T_is_76 (fun r26 N24 hq25 => ?_)
    obtain ⟨hk29, v28, rfl, zv28⟩ := hq25
    have hn27 : zMod B [] M N24 := hn6.call hk29 (by decide)
    show zW l m_T_is (zn M + 0, zw M + 0) N24 79 [some (.ref q), some (.int x0), some (.ref r2)] [.int v28] (zqI B M [])
    refine zw_if_eq (pc := 79) (tgt := 86) (by decide) d_T_is_79 (fun hc_79 => ?_) (fun hc_79 => ?_)
    · refine zw_iconst (pc := 86) (v := 0) (by decide) d_T_is_86 ?_
      exact zw_iret (S := []) (pc := 87) (ty := .int) rfl rfl d_T_is_87 ⟨hn27, _, rfl⟩
    · refine zw_iconst (pc := 82) (v := 1) (by decide) d_T_is_82 ?_
      refine zw_goto (pc := 83) (tgt := 87) (by decide) d_T_is_83 ?_
      exact zw_iret (S := []) (pc := 87) (ty := .int) rfl rfl d_T_is_87 ⟨hn27, _, rfl⟩
  by_cases hs_14_3 : x0 = 3
  · refine zw_tabIn (pc := 14) (x := x0) (off := 74) (tgt := 88) (by rw [hs_14_3]; decide) (by rw [hs_14_3]; decide) (by rw [hs_14_3]; rfl) (by decide) d_T_is_14 ?_
    refine zw_aload_n (pc := 88) (n := 2) (x := r2) rfl d_T_is_88 ?_
    refine zc_callV hn6 (pc := 89) [] [] l_T_277 (c_Sums_hasMarkNought l B N3 (hT.mod hn6) r2 r2B (hn6.k r2k)) rfl rfl r2k (by decide) (by decide) (Nat.le_of_ble_eq_true rfl) d_T_is_89 (fun r33 N31 hq32 => ?_)
    obtain ⟨hk36, v35, rfl, zv35⟩ := hq32
    have hn34 : zMod B [] M N31 := hn6.call hk36 (by decide)
    show zW l m_T_is (zn M + 0, zw M + 0) N31 92 [some (.ref q), some (.int x0), some (.ref r2)] [.int v35] (zqI B M [])
    refine zw_if_eq (pc := 92) (tgt := 99) (by decide) d_T_is_92 (fun hc_92 => ?_) (fun hc_92 => ?_)
    · refine zw_iconst (pc := 99) (v := 0) (by decide) d_T_is_99 ?_
      exact zw_iret (S := []) (pc := 100) (ty := .int) rfl rfl d_T_is_100 ⟨hn34, _, rfl⟩
    · refine zw_iconst (pc := 95) (v := 1) (by decide) d_T_is_95 ?_
      refine zw_goto (pc := 96) (tgt := 100) (by decide) d_T_is_96 ?_
      exact zw_iret (S := []) (pc := 100) (ty := .int) rfl rfl d_T_is_100 ⟨hn34, _, rfl⟩
  refine zw_tabOut (pc := 14) (x := x0) (tgt := 101) (z_out4 hs_14_0 hs_14_1 hs_14_2 hs_14_3) (by decide) d_T_is_14 ?_
  refine zw_iconst (pc := 101) (v := (-1)) (by decide) d_T_is_101 ?_
  exact zw_iret (S := []) (pc := 102) (ty := .int) rfl rfl d_T_is_102 ⟨hn6, _, rfl⟩
set_option maxHeartbeats 4000000 in
theorem c_Reader_readWhole (l : Launch) (B : Nat) (M : zMem) (hT : zTy B M) (q : Nat) (hqB : q < B) (hqk : (zsh M q).1 = 3 + 3) (a0 : Nat) (a0B : a0 < B) (a0k : (zsh M a0).1 = 4 + 3) : zC l m_Reader_readWhole 0 0 [.ref q, .ref a0] M (zqZ B M [(1, 2), (1, 3), (1, 4), (1, 5), (3, 1), (3, 2), (3, 3), (10, 2), (10, 3), (10, 4), (10, 5), (10, 6)]) := by
  refine zC_of (L0 := [some (.ref q), some (.ref a0)]) md_Reader_readWhole (Nat.le_of_ble_eq_true rfl) rfl ?_ zQ0
  have hm : zMod B [(1, 2), (1, 3), (1, 4), (1, 5), (3, 1), (3, 2), (3, 3), (10, 2), (10, 3), (10, 4), (10, 5), (10, 6)] M M := zMod.rf
  refine zw_aload_n (pc := 0) (n := 0) (x := q) rfl d_Reader_readWhole_0 ?_
  refine zw_aload_n (pc := 1) (n := 1) (x := a0) rfl d_Reader_readWhole_1 ?_
  refine zc_callV hm (pc := 2) [.ref a0] [] l_Reader_107 (c_Reader_readSum l B M (hT.mod hm) q hqB (hm.k hqk) a0 a0B (hm.k a0k)) rfl rfl hqk (by decide) (by decide) (Nat.le_of_ble_eq_true rfl) d_Reader_readWhole_2 (fun r3 N1 hq2 => ?_)
  obtain ⟨hk6, v5, rfl, zv5⟩ := hq2
  have hn4 : zMod B [(1, 2), (1, 3), (1, 4), (1, 5), (3, 1), (3, 2), (3, 3), (10, 2), (10, 3), (10, 4), (10, 5), (10, 6)] M N1 := hm.call hk6 (by decide)
  show zW l m_Reader_readWhole (zn M + 0, zw M + 0) N1 5 [some (.ref q), some (.ref a0)] [.int v5] (zqZ B M [(1, 2), (1, 3), (1, 4), (1, 5), (3, 1), (3, 2), (3, 3), (10, 2), (10, 3), (10, 4), (10, 5), (10, 6)])
  refine zw_if_ne (pc := 5) (tgt := 10) (by decide) d_Reader_readWhole_5 (fun hc_5 => ?_) (fun hc_5 => ?_)
  · refine zw_aload_n (pc := 10) (n := 0) (x := q) rfl d_Reader_readWhole_10 ?_
    obtain ⟨r8, r8f, r8B, r8k⟩ := hT.1 q 3 0 hqB hqk (by decide) (by decide) rfl
    refine zc_getF hn4 (pc := 11) f_Reader_15 rfl hqk r8f d_Reader_readWhole_11 ?_
    refine zc_getI hn4 (pc := 14) f_Reader_27 rfl r8k d_Reader_readWhole_14 ?_
    refine zw_if_eq (pc := 17) (tgt := 26) (by decide) d_Reader_readWhole_17 (fun hc_17 => ?_) (fun hc_17 => ?_)
    · refine zw_aload_n (pc := 26) (n := 1) (x := a0) rfl d_Reader_readWhole_26 ?_
      obtain ⟨r9, r9f, r9B, r9k⟩ := hT.1 a0 4 4 a0B a0k (by decide) (by decide) rfl
      refine zc_getF hn4 (pc := 27) f_Reader_111 rfl a0k r9f d_Reader_readWhole_27 ?_
      refine zc_getI hn4 (pc := 30) f_Reader_115 rfl r9k d_Reader_readWhole_30 ?_
      refine zw_if_eq (pc := 33) (tgt := 46) (by decide) d_Reader_readWhole_33 (fun hc_33 => ?_) (fun hc_33 => ?_)
      · refine zw_iconst (pc := 46) (v := 1) (by decide) d_Reader_readWhole_46 ?_
        refine zw_goto (pc := 47) (tgt := 51) (by decide) d_Reader_readWhole_47 ?_
        exact zw_iret (S := []) (pc := 51) (ty := .boolean) rfl (z_narZ (Or.inr rfl)) d_Reader_readWhole_51 ⟨hn4, _, rfl, Or.inr rfl⟩
      · refine zw_aload_n (pc := 36) (n := 0) (x := q) rfl d_Reader_readWhole_36 ?_
        refine zw_bipush (pc := 37) (v := 6) (by decide) d_Reader_readWhole_37 ?_
        refine zw_iconst (pc := 39) (v := 0) (by decide) d_Reader_readWhole_39 ?_
        refine zc_callV hn4 (pc := 40) [.int 6, .int 0] [] l_Reader_33 (c_Reader_refuseAt l B N1 (hT.mod hn4) q hqB (hn4.k hqk) 6 0) rfl rfl hqk (by decide) (by decide) (Nat.le_of_ble_eq_true rfl) d_Reader_readWhole_40 (fun r12 N10 hq11 => ?_)
        obtain ⟨hk15, v14, rfl, zv14⟩ := hq11
        have hn13 : zMod B [(1, 2), (1, 3), (1, 4), (1, 5), (3, 1), (3, 2), (3, 3), (10, 2), (10, 3), (10, 4), (10, 5), (10, 6)] M N10 := hn4.call hk15 (by decide)
        show zW l m_Reader_readWhole (zn M + 0, zw M + 0) N10 43 [some (.ref q), some (.ref a0)] [.int v14] (zqZ B M [(1, 2), (1, 3), (1, 4), (1, 5), (3, 1), (3, 2), (3, 3), (10, 2), (10, 3), (10, 4), (10, 5), (10, 6)])
        refine zw_if_eq (pc := 43) (tgt := 50) (by decide) d_Reader_readWhole_43 (fun hc_43 => ?_) (fun hc_43 => ?_)
        · refine zw_iconst (pc := 50) (v := 0) (by decide) d_Reader_readWhole_50 ?_
          exact zw_iret (S := []) (pc := 51) (ty := .boolean) rfl (z_narZ (Or.inl rfl)) d_Reader_readWhole_51 ⟨hn13, _, rfl, Or.inl rfl⟩
        · refine zw_iconst (pc := 46) (v := 1) (by decide) d_Reader_readWhole_46 ?_
          refine zw_goto (pc := 47) (tgt := 51) (by decide) d_Reader_readWhole_47 ?_
          exact zw_iret (S := []) (pc := 51) (ty := .boolean) rfl (z_narZ (Or.inr rfl)) d_Reader_readWhole_51 ⟨hn13, _, rfl, Or.inr rfl⟩
    · refine zw_aload_n (pc := 20) (n := 0) (x := q) rfl d_Reader_readWhole_20 ?_
      refine zw_iconst (pc := 21) (v := 2) (by decide) d_Reader_readWhole_21 ?_
      refine zc_callV hn4 (pc := 22) [.int 2] [] l_Reader_41 (c_Reader_refuse l B N1 (hT.mod hn4) q hqB (hn4.k hqk) 2) rfl rfl hqk (by decide) (by decide) (Nat.le_of_ble_eq_true rfl) d_Reader_readWhole_22 (fun r19 N17 hq18 => ?_)
      obtain ⟨hk22, v21, rfl, zv21⟩ := hq18
      have hn20 : zMod B [(1, 2), (1, 3), (1, 4), (1, 5), (3, 1), (3, 2), (3, 3), (10, 2), (10, 3), (10, 4), (10, 5), (10, 6)] M N17 := hn4.call hk22 (by decide)
      show zW l m_Reader_readWhole (zn M + 0, zw M + 0) N17 25 [some (.ref q), some (.ref a0)] [.int v21] (zqZ B M [(1, 2), (1, 3), (1, 4), (1, 5), (3, 1), (3, 2), (3, 3), (10, 2), (10, 3), (10, 4), (10, 5), (10, 6)])
      exact zw_iret (S := []) (pc := 25) (ty := .boolean) rfl (z_narZ (zv21)) d_Reader_readWhole_25 ⟨hn20, _, rfl, zv21⟩
  · refine zw_iconst (pc := 8) (v := 0) (by decide) d_Reader_readWhole_8 ?_
    exact zw_iret (S := []) (pc := 9) (ty := .boolean) rfl (z_narZ (Or.inl rfl)) d_Reader_readWhole_9 ⟨hn4, _, rfl, Or.inl rfl⟩
set_option maxHeartbeats 4000000 in
theorem c_Troupe_become (l : Launch) (B : Nat) (M : zMem) (hT : zTy B M) (q : Nat) (hqB : q < B) (hqk : (zsh M q).1 = 4 + 3) (x0 : Int32) : zC l m_Troupe_become 0 0 [.ref q, .int x0] M (zqV B M [(4, 7), (4, 8)]) := by
  refine zC_of (L0 := [some (.ref q), some (.int x0)]) md_Troupe_become (Nat.le_of_ble_eq_true rfl) rfl ?_ zQ0
  have hm : zMod B [(4, 7), (4, 8)] M M := zMod.rf
  refine zw_aload_n (pc := 0) (n := 0) (x := q) rfl d_Troupe_become_0 ?_
  obtain ⟨r1, r1f, r1B, r1k⟩ := hT.1 q 4 2 hqB hqk (by decide) (by decide) rfl
  refine zc_getF hm (pc := 1) f_Troupe_32 rfl hqk r1f d_Troupe_become_1 ?_
  refine zw_iconst (pc := 4) (v := 0) (by decide) d_Troupe_become_4 ?_
  refine zw_bipush (pc := 5) (v := 9) (by decide) d_Troupe_become_5 ?_
  refine zw_aload_n (pc := 7) (n := 0) (x := q) rfl d_Troupe_become_7 ?_
  refine zc_getI hm (pc := 8) f_Troupe_71 rfl hqk d_Troupe_become_8 ?_
  refine zw_iadd (pc := 11) d_Troupe_become_11 ?_
  refine zc_callV hm (pc := 12) [.int 0, .int (9 + (zi M q 8))] [] l_Troupe_93 (c_Sums_copy l B M (hT.mod hm) r1 r1B (hm.k r1k) 0 (9 + (zi M q 8))) rfl rfl r1k (by decide) (by decide) (Nat.le_of_ble_eq_true rfl) d_Troupe_become_12 (fun r4 N2 hq3 => ?_)
  obtain ⟨hk7, rfl⟩ := hq3
  have hn5 : zMod B [(4, 7), (4, 8)] M N2 := hm.call hk7 (by decide)
  show zW l m_Troupe_become (zn M + 0, zw M + 0) N2 15 [some (.ref q), some (.int x0)] [] (zqV B M [(4, 7), (4, 8)])
  refine zw_aload_n (pc := 15) (n := 0) (x := q) rfl d_Troupe_become_15 ?_
  refine zw_aload_n (pc := 16) (n := 0) (x := q) rfl d_Troupe_become_16 ?_
  refine zc_getI hn5 (pc := 17) f_Troupe_71 rfl hqk d_Troupe_become_17 ?_
  refine zw_iconst (pc := 20) (v := 1) (by decide) d_Troupe_become_20 ?_
  refine zw_iadd (pc := 21) d_Troupe_become_21 ?_
  refine zw_bipush (pc := 22) (v := 12) (by decide) d_Troupe_become_22 ?_
  refine zw_irem (pc := 24) (by decide) d_Troupe_become_24 ?_
  refine zc_putI hn5 (pc := 25) f_Troupe_71 rfl rfl hqk hqB (by decide) rfl rfl d_Troupe_become_25 (fun N9 hN9 hn10 => ?_)
  refine zw_aload_n (pc := 28) (n := 0) (x := q) rfl d_Troupe_become_28 ?_
  refine zw_aload_n (pc := 29) (n := 0) (x := q) rfl d_Troupe_become_29 ?_
  refine zc_getI hn10 (pc := 30) f_Troupe_68 rfl hqk d_Troupe_become_30 ?_
  refine zw_iconst (pc := 33) (v := 1) (by decide) d_Troupe_become_33 ?_
  refine zw_iadd (pc := 34) d_Troupe_become_34 ?_
  refine zw_bipush (pc := 35) (v := 12) (by decide) d_Troupe_become_35 ?_
  refine zw_mmin (pc := 37) x_Troupe_96 (by decide) (Nat.le_of_ble_eq_true rfl) d_Troupe_become_37 (fun v11 hv11 => ?_)
  refine zc_putI hn10 (pc := 40) f_Troupe_68 rfl rfl hqk hqB (by decide) rfl rfl d_Troupe_become_40 (fun N12 hN12 hn13 => ?_)
  refine zw_aload_n (pc := 43) (n := 0) (x := q) rfl d_Troupe_become_43 ?_
  refine zc_getF hn13 (pc := 44) f_Troupe_32 rfl hqk r1f d_Troupe_become_44 ?_
  refine zw_iload_n (pc := 47) (n := 1) (x := x0) rfl d_Troupe_become_47 ?_
  refine zw_iconst (pc := 48) (v := 0) (by decide) d_Troupe_become_48 ?_
  refine zc_callV hn13 (pc := 49) [.int x0, .int 0] [] l_Troupe_93 (c_Sums_copy l B N12 (hT.mod hn13) r1 r1B (hn13.k r1k) x0 0) rfl rfl r1k (by decide) (by decide) (Nat.le_of_ble_eq_true rfl) d_Troupe_become_49 (fun r16 N14 hq15 => ?_)
  obtain ⟨hk19, rfl⟩ := hq15
  have hn17 : zMod B [(4, 7), (4, 8)] M N14 := hn13.call hk19 (by decide)
  show zW l m_Troupe_become (zn M + 0, zw M + 0) N14 52 [some (.ref q), some (.int x0)] [] (zqV B M [(4, 7), (4, 8)])
  exact zw_vret (S := []) (pc := 52) rfl d_Troupe_become_52 ⟨hn17, rfl⟩
set_option maxHeartbeats 4000000 in
theorem c_T_makes (l : Launch) (B : Nat) (M : zMem) (hT : zTy B M) (q : Nat) (hqB : q < B) (hqk : (zsh M q).1 = 0 + 3) : zC l m_T_makes 0 0 [.ref q] M (fun r M2 => (zqI B M [(1, 1), (1, 2), (1, 3), (1, 4), (1, 5), (3, 1), (3, 2), (3, 3), (4, 7), (4, 8), (10, 2), (10, 3), (10, 4), (10, 5), (10, 6)]) r M2 ∧ ∀ t, zf M q 0 = some t → zi M2 t 1 = 0) := by
  refine zC_of (L0 := [some (.ref q), none]) md_T_makes (Nat.le_of_ble_eq_true rfl) rfl ?_ zQ0
  have hm : zMod B [(1, 1), (1, 2), (1, 3), (1, 4), (1, 5), (3, 1), (3, 2), (3, 3), (4, 7), (4, 8), (10, 2), (10, 3), (10, 4), (10, 5), (10, 6)] M M := zMod.rf
  obtain ⟨r1, r1f, r1B, r1k⟩ := hT.1 q 0 0 hqB hqk (by decide) (by decide) rfl
  refine zw_aload_n (pc := 0) (n := 0) (x := q) rfl d_T_makes_0 ?_
  obtain ⟨r2, r2f, r2B, r2k⟩ := hT.1 q 0 1 hqB hqk (by decide) (by decide) rfl
  refine zc_getF hm (pc := 1) f_T_21 rfl hqk r2f d_T_makes_1 ?_
  refine zc_callV hm (pc := 4) [] [] l_T_49 (c_Reader_begin l B M (hT.mod hm) r2 r2B (hm.k r2k)) rfl rfl r2k (by decide) (by decide) (Nat.le_of_ble_eq_true rfl) d_T_makes_4 (fun r5 N3 hq4 => ?_)
  obtain ⟨hk8, rfl⟩ := hq4
  have hn6 : zMod B [(1, 1), (1, 2), (1, 3), (1, 4), (1, 5), (3, 1), (3, 2), (3, 3), (4, 7), (4, 8), (10, 2), (10, 3), (10, 4), (10, 5), (10, 6)] M N3 := hm.call hk8 (by decide)
  have kv10 : zi N3 r1 1 = zi M r1 1 := (hk8.2.2.2.2 r1 1 1 (hm.k r1k) (by decide)).trans rfl
  show zW l m_T_makes (zn M + 0, zw M + 0) N3 7 [some (.ref q), none] [] (fun r M2 => (zqI B M [(1, 1), (1, 2), (1, 3), (1, 4), (1, 5), (3, 1), (3, 2), (3, 3), (4, 7), (4, 8), (10, 2), (10, 3), (10, 4), (10, 5), (10, 6)]) r M2 ∧ ∀ t, zf M q 0 = some t → zi M2 t 1 = 0)
  refine zw_aload_n (pc := 7) (n := 0) (x := q) rfl d_T_makes_7 ?_
  refine zc_getF hn6 (pc := 8) f_T_21 rfl hqk r2f d_T_makes_8 ?_
  refine zw_aload_n (pc := 11) (n := 0) (x := q) rfl d_T_makes_11 ?_
  obtain ⟨r11, r11f, r11B, r11k⟩ := hT.1 q 0 2 hqB hqk (by decide) (by decide) rfl
  refine zc_getF hn6 (pc := 12) f_T_28 rfl hqk r11f d_T_makes_12 ?_
  refine zc_callV hn6 (pc := 15) [.ref r11] [] l_T_281 (c_Reader_readWhole l B N3 (hT.mod hn6) r2 r2B (hn6.k r2k) r11 r11B (hn6.k r11k)) rfl rfl r2k (by decide) (by decide) (Nat.le_of_ble_eq_true rfl) d_T_makes_15 (fun r14 N12 hq13 => ?_)
  obtain ⟨hk17, v16, rfl, zv16⟩ := hq13
  have hn15 : zMod B [(1, 1), (1, 2), (1, 3), (1, 4), (1, 5), (3, 1), (3, 2), (3, 3), (4, 7), (4, 8), (10, 2), (10, 3), (10, 4), (10, 5), (10, 6)] M N12 := hn6.call hk17 (by decide)
  have kv19 : zi N12 r1 1 = zi M r1 1 := (hk17.2.2.2.2 r1 1 1 (hn6.k r1k) (by decide)).trans kv10
  show zW l m_T_makes (zn M + 0, zw M + 0) N12 18 [some (.ref q), none] [.int v16] (fun r M2 => (zqI B M [(1, 1), (1, 2), (1, 3), (1, 4), (1, 5), (3, 1), (3, 2), (3, 3), (4, 7), (4, 8), (10, 2), (10, 3), (10, 4), (10, 5), (10, 6)]) r M2 ∧ ∀ t, zf M q 0 = some t → zi M2 t 1 = 0)
  refine zw_istore_n (pc := 18) (i := 1) (L2 := [some (.ref q), some (.int v16)]) rfl (by decide) rfl d_T_makes_18 ?_
  refine zw_aload_n (pc := 19) (n := 0) (x := q) rfl d_T_makes_19 ?_
  refine zc_getF hn15 (pc := 20) f_T_10 rfl hqk r1f d_T_makes_20 ?_
  refine zw_iconst (pc := 23) (v := 0) (by decide) d_T_makes_23 ?_
  refine zc_putI hn15 (pc := 24) f_T_42 rfl rfl r1k r1B (by decide) rfl rfl d_T_makes_24 (fun N20 hN20 hn21 => ?_)
  have kv22 : zi N20 r1 1 = 0 := by rw [hN20]; exact zup2_s
  refine zw_iload_n (pc := 27) (n := 1) (x := v16) rfl d_T_makes_27 ?_
  refine zw_if_ne (pc := 28) (tgt := 33) (by decide) d_T_makes_28 (fun hc_28 => ?_) (fun hc_28 => ?_)
  · refine zw_aload_n (pc := 33) (n := 0) (x := q) rfl d_T_makes_33 ?_
    refine zc_getF hn21 (pc := 34) f_T_28 rfl hqk r11f d_T_makes_34 ?_
    refine zw_bipush (pc := 37) (v := 21) (by decide) d_T_makes_37 ?_
    refine zc_callV hn21 (pc := 39) [.int 21] [] l_T_284 (c_Troupe_become l B N20 (hT.mod hn21) r11 r11B (hn21.k r11k) 21) rfl rfl r11k (by decide) (by decide) (Nat.le_of_ble_eq_true rfl) d_T_makes_39 (fun r25 N23 hq24 => ?_)
    obtain ⟨hk28, rfl⟩ := hq24
    have hn26 : zMod B [(1, 1), (1, 2), (1, 3), (1, 4), (1, 5), (3, 1), (3, 2), (3, 3), (4, 7), (4, 8), (10, 2), (10, 3), (10, 4), (10, 5), (10, 6)] M N23 := hn21.call hk28 (by decide)
    have kv30 : zi N23 r1 1 = 0 := (hk28.2.2.2.2 r1 1 1 (hn21.k r1k) (by decide)).trans kv22
    show zW l m_T_makes (zn M + 0, zw M + 0) N23 42 [some (.ref q), some (.int v16)] [] (fun r M2 => (zqI B M [(1, 1), (1, 2), (1, 3), (1, 4), (1, 5), (3, 1), (3, 2), (3, 3), (4, 7), (4, 8), (10, 2), (10, 3), (10, 4), (10, 5), (10, 6)]) r M2 ∧ ∀ t, zf M q 0 = some t → zi M2 t 1 = 0)
    refine zw_aload_n (pc := 42) (n := 0) (x := q) rfl d_T_makes_42 ?_
    refine zc_getF hn26 (pc := 43) f_T_28 rfl hqk r11f d_T_makes_43 ?_
    obtain ⟨r31, r31f, r31B, r31k⟩ := hT.1 r11 4 2 r11B r11k (by decide) (by decide) rfl
    refine zc_getF hn26 (pc := 46) f_T_169 rfl r11k r31f d_T_makes_46 ?_
    refine zw_iconst (pc := 49) (v := 0) (by decide) d_T_makes_49 ?_
    refine zc_callV hn26 (pc := 50) [.int 0] [] l_T_253 (c_Sums_partsOf l B N23 (hT.mod hn26) r31 r31B (hn26.k r31k) 0) rfl rfl r31k (by decide) (by decide) (Nat.le_of_ble_eq_true rfl) d_T_makes_50 (fun r34 N32 hq33 => ?_)
    obtain ⟨hk37, v36, rfl⟩ := hq33
    have hn35 : zMod B [(1, 1), (1, 2), (1, 3), (1, 4), (1, 5), (3, 1), (3, 2), (3, 3), (4, 7), (4, 8), (10, 2), (10, 3), (10, 4), (10, 5), (10, 6)] M N32 := hn26.call hk37 (by decide)
    have kv39 : zi N32 r1 1 = 0 := (hk37.2.2.2.2 r1 1 1 (hn26.k r1k) (by decide)).trans kv30
    show zW l m_T_makes (zn M + 0, zw M + 0) N32 53 [some (.ref q), some (.int v16)] [.int v36] (fun r M2 => (zqI B M [(1, 1), (1, 2), (1, 3), (1, 4), (1, 5), (3, 1), (3, 2), (3, 3), (4, 7), (4, 8), (10, 2), (10, 3), (10, 4), (10, 5), (10, 6)]) r M2 ∧ ∀ t, zf M q 0 = some t → zi M2 t 1 = 0)
    exact zw_iret (S := []) (pc := 53) (ty := .int) rfl rfl d_T_makes_53 ⟨⟨hn35, _, rfl⟩, fun t ht => by
      rw [r1f] at ht
      cases ht
      exact kv39⟩
  · refine zw_iconst (pc := 31) (v := (-1)) (by decide) d_T_makes_31 ?_
    exact zw_iret (S := []) (pc := 32) (ty := .int) rfl rfl d_T_makes_32 ⟨⟨hn21, _, rfl⟩, fun t ht => by
      rw [r1f] at ht
      cases ht
      exact kv22⟩
set_option maxHeartbeats 4000000 in
theorem c_Group_isSetKept (l : Launch) (B : Nat) (M : zMem) (hT : zTy B M) (q : Nat) (hqB : q < B) (hqk : (zsh M q).1 = 5 + 3) (x0 : Int32) (x1 : Int32) : zC l m_Group_isSetKept 0 0 [.ref q, .int x0, .int x1] M (zqZ B M []) := by
  refine zC_of (L0 := [some (.ref q), some (.int x0), some (.int x1), none]) md_Group_isSetKept (Nat.le_of_ble_eq_true rfl) rfl ?_ zQ0
  have hm : zMod B [] M M := zMod.rf
  refine zw_iconst (pc := 0) (v := 0) (by decide) d_Group_isSetKept_0 ?_
  refine zw_istore_n (pc := 1) (i := 3) (L2 := [some (.ref q), some (.int x0), some (.int x1), some (.int 0)]) rfl (by decide) rfl d_Group_isSetKept_1 ?_
  have lp_2 : ∀ (n : Nat) (u1 : Int32) (N2 : zMem) (hn3 : zMod B [] M N2), zvu u1 (zi M q 5) < n → zW l m_Group_isSetKept (zn M + 0, zw M + 0) N2 2 [some (.ref q), some (.int x0), some (.int x1), some (.int u1)] [] (zqZ B M []) := by
    intro n
    induction n with
    | zero =>
      intro u1 N2 hn3 h0
      exact absurd h0 (Nat.not_lt_zero _)
    | succ n ih_2 =>
      intro u1 N2 hn3 hlt_2
      refine zw_iload_n (pc := 2) (n := 3) (x := u1) rfl d_Group_isSetKept_2 ?_
      refine zw_aload_n (pc := 3) (n := 0) (x := q) rfl d_Group_isSetKept_3 ?_
      refine zc_getI0 hn3 (pc := 4) (by decide) f_Group_32 rfl hqk d_Group_isSetKept_4 ?_
      refine zw_icmp_ge (pc := 7) (tgt := 39) (by decide) d_Group_isSetKept_7 (fun hc_7 => ?_) (fun hc_7 => ?_)
      · refine zw_iconst (pc := 39) (v := 1) (by decide) d_Group_isSetKept_39 ?_
        exact zw_iret (S := []) (pc := 40) (ty := .boolean) rfl (z_narZ (Or.inr rfl)) d_Group_isSetKept_40 ⟨hn3, _, rfl, Or.inr rfl⟩
      · refine zw_iload_n (pc := 10) (n := 1) (x := x0) rfl d_Group_isSetKept_10 ?_
        refine zw_iload_n (pc := 11) (n := 3) (x := u1) rfl d_Group_isSetKept_11 ?_
        refine zc_callS hn3 (pc := 12) [.int x0, .int u1] [] l_Group_73 (c_T_isIn l B N2 (hT.mod hn3) x0 u1) rfl rfl (by decide) (Nat.le_of_ble_eq_true rfl) d_Group_isSetKept_12 (fun r6 N4 hq5 => ?_)
        obtain ⟨hk9, v8, rfl, zv8⟩ := hq5
        have hn7 : zMod B [] M N4 := hn3.call hk9 (by decide)
        show zW l m_Group_isSetKept (zn M + 0, zw M + 0) N4 15 [some (.ref q), some (.int x0), some (.int x1), some (.int u1)] [.int v8] (zqZ B M [])
        have j_33 : ∀ (N11 : zMem) (hn12 : zMod B [] M N11), zW l m_Group_isSetKept (zn M + 0, zw M + 0) N11 33 [some (.ref q), some (.int x0), some (.int x1), some (.int u1)] [] (zqZ B M []) := by
          intro N11 hn12
          refine zw_iinc (pc := 33) (i := 3) (x := u1) (v := u1 + Int32.ofInt 1) (L2 := [some (.ref q), some (.int x0), some (.int x1), some (.int (u1 + Int32.ofInt 1))]) rfl rfl (by decide) rfl d_Group_isSetKept_33 ?_
          refine zw_goto (pc := 36) (tgt := 2) (by decide) d_Group_isSetKept_36 ?_
          exact ih_2 (u1 + Int32.ofInt 1) N11 hn12 (Nat.lt_of_lt_of_le (z_up hc_7) (Nat.le_of_lt_succ hlt_2))
        refine zw_if_eq (pc := 15) (tgt := 33) (by decide) d_Group_isSetKept_15 (fun hc_15 => ?_) (fun hc_15 => ?_)
        · exact j_33 N4 hn7
        · refine zw_aload_n (pc := 18) (n := 0) (x := q) rfl d_Group_isSetKept_18 ?_
          refine zw_iload_n (pc := 19) (n := 3) (x := u1) rfl d_Group_isSetKept_19 ?_
          refine zw_iload_n (pc := 20) (n := 2) (x := x1) rfl d_Group_isSetKept_20 ?_
          refine zc_callV hn7 (pc := 21) [.int u1, .int x1] [] l_Group_103 (c_Group_placesReached l B N4 (hT.mod hn7) q hqB (hn7.k hqk) u1 x1) rfl rfl hqk (by decide) (by decide) (Nat.le_of_ble_eq_true rfl) d_Group_isSetKept_21 (fun r15 N13 hq14 => ?_)
          obtain ⟨hk18, v17, rfl⟩ := hq14
          have hn16 : zMod B [] M N13 := hn7.call hk18 (by decide)
          show zW l m_Group_isSetKept (zn M + 0, zw M + 0) N13 24 [some (.ref q), some (.int x0), some (.int x1), some (.int u1)] [.int v17] (zqZ B M [])
          refine zw_iload_n (pc := 24) (n := 1) (x := x0) rfl d_Group_isSetKept_24 ?_
          refine zc_callS hn16 (pc := 25) [.int v17, .int x0] [] l_Group_115 (c_T_isPart l B N13 (hT.mod hn16) v17 x0) rfl rfl (by decide) (Nat.le_of_ble_eq_true rfl) d_Group_isSetKept_25 (fun r22 N20 hq21 => ?_)
          obtain ⟨hk25, v24, rfl, zv24⟩ := hq21
          have hn23 : zMod B [] M N20 := hn16.call hk25 (by decide)
          show zW l m_Group_isSetKept (zn M + 0, zw M + 0) N20 28 [some (.ref q), some (.int x0), some (.int x1), some (.int u1)] [.int v24] (zqZ B M [])
          refine zw_if_ne (pc := 28) (tgt := 33) (by decide) d_Group_isSetKept_28 (fun hc_28 => ?_) (fun hc_28 => ?_)
          · exact j_33 N20 hn23
          · refine zw_iconst (pc := 31) (v := 0) (by decide) d_Group_isSetKept_31 ?_
            exact zw_iret (S := []) (pc := 32) (ty := .boolean) rfl (z_narZ (Or.inl rfl)) d_Group_isSetKept_32 ⟨hn23, _, rfl, Or.inl rfl⟩
  exact lp_2 _ 0 M hm (Nat.lt_succ_self _)
