/-! by program: words of the tables, by their places; what is known of classes, fields, methods -/
theorem okc {x : Int} (h : decide (-2147483648 ≤ x ∧ x ≤ 2147483647) = true) : ok_i x := by unfold ok_i; exact of_decide_eq_true h
theorem ok_lg (x y : Int) : ok_i (if x < y then -1 else if y < x then 1 else 0) := by split; exact okc rfl; split; exact okc rfl; exact okc rfl
theorem ite_z {α : Type} {c : Prop} [Decidable c] {o : Option α} {z : α} (h : (if c then o else none) = some z) : c ∧ o = some z := by
  by_cases hc : c
  · rw [if_pos hc] at h; exact ⟨hc, h⟩
  · rw [if_neg hc] at h; cases h
def FU_ : Nat := 1000000
theorem qt_0 {w : Cond} (h : w ∈ k2_sels lw_privs) : w ∈ lw_tbl := List.mem_append_left _ h
theorem qt_1 {w : Cond} (h : w ∈ tables_1_1) : w ∈ lw_tbl := List.mem_append_right _ (List.mem_append_left _ h)
theorem qt_2 {w : Cond} (h : w ∈ tables_1_2) : w ∈ lw_tbl := List.mem_append_right _ (List.mem_append_right _ (List.mem_append_left _ h))
theorem qt_3 {w : Cond} (h : w ∈ tables_1_3) : w ∈ lw_tbl := List.mem_append_right _ (List.mem_append_right _ (List.mem_append_right _ (List.mem_append_left _ h)))
theorem qt_4 {w : Cond} (h : w ∈ tables_1_4) : w ∈ lw_tbl := List.mem_append_right _ (List.mem_append_right _ (List.mem_append_right _ (List.mem_append_right _ (List.mem_append_left _ h))))
theorem qt_5 {w : Cond} (h : w ∈ tables_1_5) : w ∈ lw_tbl := List.mem_append_right _ (List.mem_append_right _ (List.mem_append_right _ (List.mem_append_right _ (List.mem_append_right _ (List.mem_append_left _ h)))))
theorem qt_6 {w : Cond} (h : w ∈ tables_1_6) : w ∈ lw_tbl := List.mem_append_right _ (List.mem_append_right _ (List.mem_append_right _ (List.mem_append_right _ (List.mem_append_right _ (List.mem_append_right _ (List.mem_append_left _ h))))))
theorem qt_7 {w : Cond} (h : w ∈ tables_1_7) : w ∈ lw_tbl := List.mem_append_right _ (List.mem_append_right _ (List.mem_append_right _ (List.mem_append_right _ (List.mem_append_right _ (List.mem_append_right _ (List.mem_append_right _ (h)))))))
theorem cl_X12_73 : Cond.constantLong RX12 73 (Int64.ofInt 7) ∈ TB_t := tb_in (qt_5 (List.mem_of_getElem? (i := 228) (by decide +kernel))) rfl
theorem cl_X12_83 : Cond.constantLong RX12 83 (Int64.ofInt 9) ∈ TB_t := tb_in (qt_6 (List.mem_of_getElem? (i := 2) (by decide +kernel))) rfl
theorem cl_X12_85 : Cond.constantLong RX12 85 (Int64.ofInt 1023) ∈ TB_t := tb_in (qt_5 (List.mem_of_getElem? (i := 232) (by decide +kernel))) rfl
theorem cl_X12_87 : Cond.constantLong RX12 87 (Int64.ofInt 999) ∈ TB_t := tb_in (qt_5 (List.mem_of_getElem? (i := 233) (by decide +kernel))) rfl
theorem cl_X12_96 : Cond.constantLong RX12 96 (Int64.ofInt 6) ∈ TB_t := tb_in (qt_6 (List.mem_of_getElem? (i := 11) (by decide +kernel))) rfl
theorem cl_X12_101 : Cond.constantLong RX12 101 (Int64.ofInt 3) ∈ TB_t := tb_in (qt_6 (List.mem_of_getElem? (i := 24) (by decide +kernel))) rfl
theorem cl_X12_106 : Cond.constantLong RX12 106 (Int64.ofInt 99) ∈ TB_t := tb_in (qt_6 (List.mem_of_getElem? (i := 33) (by decide +kernel))) rfl
theorem cl_X12_128 : Cond.constantLong RX12 128 (Int64.ofInt 4) ∈ TB_t := tb_in (qt_6 (List.mem_of_getElem? (i := 62) (by decide +kernel))) rfl
theorem cl_X12_176 : Cond.constantLong RX12 176 (Int64.ofInt 48) ∈ TB_t := tb_in (qt_6 (List.mem_of_getElem? (i := 144) (by decide +kernel))) rfl
theorem cl_X12_236 : Cond.constantLong RX12 236 (Int64.ofInt (-1)) ∈ TB_t := tb_in (qt_6 (List.mem_of_getElem? (i := 200) (by decide +kernel))) rfl
theorem cl_X12_244 : Cond.constantLong RX12 244 (Int64.ofInt 23) ∈ TB_t := tb_in (qt_6 (List.mem_of_getElem? (i := 223) (by decide +kernel))) rfl
theorem cl_X12_263 : Cond.constantLong RX12 263 (Int64.ofInt 65535) ∈ TB_t := tb_in (qt_7 (List.mem_of_getElem? (i := 12) (by decide +kernel))) rfl
theorem cl_X12_302 : Cond.constantLong RX12 302 (Int64.ofInt 2) ∈ TB_t := tb_in (qt_7 (List.mem_of_getElem? (i := 90) (by decide +kernel))) rfl
theorem cn_X11_239 : Cond.constant RX11 239 (Int32.ofInt 16777215) ∈ TB_t := tb_in (qt_4 (List.mem_of_getElem? (i := 12) (by decide +kernel))) rfl
theorem cn_X11_277 : Cond.constant RX11 277 (Int32.ofInt 65536) ∈ TB_t := tb_in (qt_4 (List.mem_of_getElem? (i := 82) (by decide +kernel))) rfl
theorem cn_X0_146 : Cond.constant RX0 146 (Int32.ofInt 16777215) ∈ TB_t := tb_in (qt_4 (List.mem_of_getElem? (i := 24) (by decide +kernel))) rfl
theorem cn_X3_121 : Cond.constant RX3 121 (Int32.ofInt 65536) ∈ TB_t := tb_in (qt_3 (List.mem_of_getElem? (i := 225) (by decide +kernel))) rfl
theorem cn_X6_34 : Cond.constant RX6 34 (Int32.ofInt 16777215) ∈ TB_t := tb_in (qt_4 (List.mem_of_getElem? (i := 11) (by decide +kernel))) rfl
theorem cn_X12_159 : Cond.constant RX12 159 (Int32.ofInt 1000000000) ∈ TB_t := tb_in (qt_6 (List.mem_of_getElem? (i := 115) (by decide +kernel))) rfl
theorem cn_X12_265 : Cond.constant RX12 265 (Int32.ofInt 1048576) ∈ TB_t := tb_in (qt_7 (List.mem_of_getElem? (i := 13) (by decide +kernel))) rfl
theorem cn_X12_294 : Cond.constant RX12 294 (Int32.ofInt 65535) ∈ TB_t := tb_in (qt_7 (List.mem_of_getElem? (i := 61) (by decide +kernel))) rfl
theorem cn_J6_264 : Cond.constant RJ6 264 (Int32.ofInt 65536) ∈ TB_t := tb_in (qt_3 (List.mem_of_getElem? (i := 121) (by decide +kernel))) rfl
theorem cn_J6_265 : Cond.constant RJ6 265 (Int32.ofInt 1431655765) ∈ TB_t := tb_in (qt_4 (List.mem_of_getElem? (i := 32) (by decide +kernel))) rfl
theorem cn_J6_266 : Cond.constant RJ6 266 (Int32.ofInt 858993459) ∈ TB_t := tb_in (qt_4 (List.mem_of_getElem? (i := 33) (by decide +kernel))) rfl
theorem cn_J6_267 : Cond.constant RJ6 267 (Int32.ofInt 252645135) ∈ TB_t := tb_in (qt_4 (List.mem_of_getElem? (i := 34) (by decide +kernel))) rfl
theorem fw_X11_10 : FW_ RX11 10 11 0 := ⟨by decide, by decide, tb_in (qt_2 (List.mem_of_getElem? (i := 182) (by decide +kernel))) rfl⟩
theorem fw_X11_16 : FW_ RX11 16 11 1 := ⟨by decide, by decide, tb_in (qt_2 (List.mem_of_getElem? (i := 183) (by decide +kernel))) rfl⟩
theorem fw_X11_21 : FW_ RX11 21 11 3 := ⟨by decide, by decide, tb_in (qt_2 (List.mem_of_getElem? (i := 185) (by decide +kernel))) rfl⟩
theorem fw_X11_28 : FW_ RX11 28 11 4 := ⟨by decide, by decide, tb_in (qt_2 (List.mem_of_getElem? (i := 186) (by decide +kernel))) rfl⟩
theorem fw_X11_35 : FW_ RX11 35 11 5 := ⟨by decide, by decide, tb_in (qt_2 (List.mem_of_getElem? (i := 187) (by decide +kernel))) rfl⟩
theorem fw_X11_42 : FW_ RX11 42 11 6 := ⟨by decide, by decide, tb_in (qt_2 (List.mem_of_getElem? (i := 188) (by decide +kernel))) rfl⟩
theorem fw_X11_49 : FW_ RX11 49 11 7 := ⟨by decide, by decide, tb_in (qt_2 (List.mem_of_getElem? (i := 189) (by decide +kernel))) rfl⟩
theorem fw_X11_56 : FW_ RX11 56 11 8 := ⟨by decide, by decide, tb_in (qt_2 (List.mem_of_getElem? (i := 190) (by decide +kernel))) rfl⟩
theorem fw_X11_69 : FW_ RX11 69 0 4 := ⟨by decide, by decide, tb_in (qt_1 (List.mem_of_getElem? (i := 195) (by decide +kernel))) rfl⟩
theorem fw_X11_77 : FW_ RX11 77 0 3 := ⟨by decide, by decide, tb_in (qt_1 (List.mem_of_getElem? (i := 192) (by decide +kernel))) rfl⟩
theorem fw_X11_81 : FW_ RX11 81 1 0 := ⟨by decide, by decide, tb_in (qt_1 (List.mem_of_getElem? (i := 82) (by decide +kernel))) rfl⟩
theorem fw_X11_93 : FW_ RX11 93 1 1 := ⟨by decide, by decide, tb_in (qt_1 (List.mem_of_getElem? (i := 85) (by decide +kernel))) rfl⟩
theorem fw_X11_96 : FW_ RX11 96 1 2 := ⟨by decide, by decide, tb_in (qt_1 (List.mem_of_getElem? (i := 88) (by decide +kernel))) rfl⟩
theorem fw_X11_99 : FW_ RX11 99 1 3 := ⟨by decide, by decide, tb_in (qt_1 (List.mem_of_getElem? (i := 90) (by decide +kernel))) rfl⟩
theorem fw_X11_102 : FW_ RX11 102 1 5 := ⟨by decide, by decide, tb_in (qt_1 (List.mem_of_getElem? (i := 95) (by decide +kernel))) rfl⟩
theorem fw_X11_106 : FW_ RX11 106 1 4 := ⟨by decide, by decide, tb_in (qt_1 (List.mem_of_getElem? (i := 92) (by decide +kernel))) rfl⟩
theorem fw_X11_109 : FW_ RX11 109 1 6 := ⟨by decide, by decide, tb_in (qt_1 (List.mem_of_getElem? (i := 97) (by decide +kernel))) rfl⟩
theorem fw_X11_112 : FW_ RX11 112 10 1 := ⟨by decide, by decide, tb_in (qt_1 (List.mem_of_getElem? (i := 70) (by decide +kernel))) rfl⟩
theorem fw_X11_115 : FW_ RX11 115 10 0 := ⟨by decide, by decide, tb_in (qt_1 (List.mem_of_getElem? (i := 62) (by decide +kernel))) rfl⟩
theorem fw_X11_119 : FW_ RX11 119 0 0 := ⟨by decide, by decide, tb_in (qt_1 (List.mem_of_getElem? (i := 186) (by decide +kernel))) rfl⟩
theorem fw_X11_122 : FW_ RX11 122 0 1 := ⟨by decide, by decide, tb_in (qt_1 (List.mem_of_getElem? (i := 188) (by decide +kernel))) rfl⟩
theorem fw_X11_125 : FW_ RX11 125 0 2 := ⟨by decide, by decide, tb_in (qt_1 (List.mem_of_getElem? (i := 190) (by decide +kernel))) rfl⟩
theorem fw_X11_136 : FW_ RX11 136 0 6 := ⟨by decide, by decide, tb_in (qt_1 (List.mem_of_getElem? (i := 204) (by decide +kernel))) rfl⟩
theorem fw_X11_139 : FW_ RX11 139 0 5 := ⟨by decide, by decide, tb_in (qt_1 (List.mem_of_getElem? (i := 201) (by decide +kernel))) rfl⟩
theorem fw_X11_147 : FW_ RX11 147 0 7 := ⟨by decide, by decide, tb_in (qt_1 (List.mem_of_getElem? (i := 208) (by decide +kernel))) rfl⟩
theorem fw_X11_162 : FW_ RX11 162 2 1 := ⟨by decide, by decide, tb_in (qt_2 (List.mem_of_getElem? (i := 29) (by decide +kernel))) rfl⟩
theorem fw_X11_165 : FW_ RX11 165 2 3 := ⟨by decide, by decide, tb_in (qt_2 (List.mem_of_getElem? (i := 33) (by decide +kernel))) rfl⟩
theorem fw_X11_168 : FW_ RX11 168 2 2 := ⟨by decide, by decide, tb_in (qt_2 (List.mem_of_getElem? (i := 31) (by decide +kernel))) rfl⟩
theorem fw_X11_175 : FW_ RX11 175 2 8 := ⟨by decide, by decide, tb_in (qt_2 (List.mem_of_getElem? (i := 41) (by decide +kernel))) rfl⟩
theorem fw_X11_178 : FW_ RX11 178 2 9 := ⟨by decide, by decide, tb_in (qt_2 (List.mem_of_getElem? (i := 43) (by decide +kernel))) rfl⟩
theorem fw_X11_188 : FW_ RX11 188 7 4 := ⟨by decide, by decide, tb_in (qt_1 (List.mem_of_getElem? (i := 150) (by decide +kernel))) rfl⟩
theorem fw_X11_191 : FW_ RX11 191 0 9 := ⟨by decide, by decide, tb_in (qt_1 (List.mem_of_getElem? (i := 214) (by decide +kernel))) rfl⟩
theorem fw_X11_194 : FW_ RX11 194 0 8 := ⟨by decide, by decide, tb_in (qt_1 (List.mem_of_getElem? (i := 211) (by decide +kernel))) rfl⟩
theorem fw_X11_209 : FW_ RX11 209 3 1 := ⟨by decide, by decide, tb_in (qt_2 (List.mem_of_getElem? (i := 73) (by decide +kernel))) rfl⟩
theorem fw_X11_214 : FW_ RX11 214 3 3 := ⟨by decide, by decide, tb_in (qt_2 (List.mem_of_getElem? (i := 77) (by decide +kernel))) rfl⟩
theorem fw_X11_217 : FW_ RX11 217 3 2 := ⟨by decide, by decide, tb_in (qt_2 (List.mem_of_getElem? (i := 75) (by decide +kernel))) rfl⟩
theorem fw_X11_220 : FW_ RX11 220 0 11 := ⟨by decide, by decide, tb_in (qt_1 (List.mem_of_getElem? (i := 218) (by decide +kernel))) rfl⟩
theorem fw_X11_227 : FW_ RX11 227 9 4 := ⟨by decide, by decide, tb_in (qt_2 (List.mem_of_getElem? (i := 170) (by decide +kernel))) rfl⟩
theorem fw_X11_230 : FW_ RX11 230 9 3 := ⟨by decide, by decide, tb_in (qt_2 (List.mem_of_getElem? (i := 165) (by decide +kernel))) rfl⟩
theorem fw_X11_235 : FW_ RX11 235 0 10 := ⟨by decide, by decide, tb_in (qt_1 (List.mem_of_getElem? (i := 216) (by decide +kernel))) rfl⟩
theorem fw_X11_240 : FW_ RX11 240 8 2 := ⟨by decide, by decide, tb_in (qt_1 (List.mem_of_getElem? (i := 175) (by decide +kernel))) rfl⟩
theorem fw_X11_245 : FW_ RX11 245 8 0 := ⟨by decide, by decide, tb_in (qt_1 (List.mem_of_getElem? (i := 169) (by decide +kernel))) rfl⟩
theorem fw_X11_246 : FW_ RX11 246 8 1 := ⟨by decide, by decide, tb_in (qt_1 (List.mem_of_getElem? (i := 172) (by decide +kernel))) rfl⟩
theorem fw_X11_262 : FW_ RX11 262 6 2 := ⟨by decide, by decide, tb_in (qt_2 (List.mem_of_getElem? (i := 113) (by decide +kernel))) rfl⟩
theorem fw_X11_265 : FW_ RX11 265 6 3 := ⟨by decide, by decide, tb_in (qt_2 (List.mem_of_getElem? (i := 115) (by decide +kernel))) rfl⟩
theorem fw_X11_282 : FW_ RX11 282 2 5 := ⟨by decide, by decide, tb_in (qt_2 (List.mem_of_getElem? (i := 37) (by decide +kernel))) rfl⟩
theorem fw_X11_285 : FW_ RX11 285 2 4 := ⟨by decide, by decide, tb_in (qt_2 (List.mem_of_getElem? (i := 35) (by decide +kernel))) rfl⟩
theorem fw_X11_288 : FW_ RX11 288 0 14 := ⟨by decide, by decide, tb_in (qt_1 (List.mem_of_getElem? (i := 227) (by decide +kernel))) rfl⟩
theorem fw_X11_291 : FW_ RX11 291 0 12 := ⟨by decide, by decide, tb_in (qt_1 (List.mem_of_getElem? (i := 221) (by decide +kernel))) rfl⟩
theorem fw_X11_295 : FW_ RX11 295 0 13 := ⟨by decide, by decide, tb_in (qt_1 (List.mem_of_getElem? (i := 224) (by decide +kernel))) rfl⟩
theorem fw_X11_301 : FW_ RX11 301 4 1 := ⟨by decide, by decide, tb_in (qt_2 (List.mem_of_getElem? (i := 133) (by decide +kernel))) rfl⟩
theorem fw_X11_303 : FW_ RX11 303 4 2 := ⟨by decide, by decide, tb_in (qt_2 (List.mem_of_getElem? (i := 135) (by decide +kernel))) rfl⟩
theorem fw_X11_323 : FW_ RX11 323 11 2 := ⟨by decide, by decide, tb_in (qt_2 (List.mem_of_getElem? (i := 184) (by decide +kernel))) rfl⟩
theorem fw_X11_363 : FW_ RX11 363 9 0 := ⟨by decide, by decide, tb_in (qt_2 (List.mem_of_getElem? (i := 156) (by decide +kernel))) rfl⟩
theorem fw_X11_366 : FW_ RX11 366 9 2 := ⟨by decide, by decide, tb_in (qt_2 (List.mem_of_getElem? (i := 160) (by decide +kernel))) rfl⟩
theorem fw_X11_381 : FW_ RX11 381 9 1 := ⟨by decide, by decide, tb_in (qt_2 (List.mem_of_getElem? (i := 158) (by decide +kernel))) rfl⟩
theorem fw_X0_9 : FW_ RX0 9 0 0 := ⟨by decide, by decide, tb_in (qt_1 (List.mem_of_getElem? (i := 184) (by decide +kernel))) rfl⟩
theorem fw_X0_15 : FW_ RX0 15 0 1 := ⟨by decide, by decide, tb_in (qt_1 (List.mem_of_getElem? (i := 187) (by decide +kernel))) rfl⟩
theorem fw_X0_18 : FW_ RX0 18 0 2 := ⟨by decide, by decide, tb_in (qt_1 (List.mem_of_getElem? (i := 189) (by decide +kernel))) rfl⟩
theorem fw_X0_23 : FW_ RX0 23 0 3 := ⟨by decide, by decide, tb_in (qt_1 (List.mem_of_getElem? (i := 191) (by decide +kernel))) rfl⟩
theorem fw_X0_29 : FW_ RX0 29 0 5 := ⟨by decide, by decide, tb_in (qt_1 (List.mem_of_getElem? (i := 198) (by decide +kernel))) rfl⟩
theorem fw_X0_35 : FW_ RX0 35 0 8 := ⟨by decide, by decide, tb_in (qt_1 (List.mem_of_getElem? (i := 209) (by decide +kernel))) rfl⟩
theorem fw_X0_41 : FW_ RX0 41 0 10 := ⟨by decide, by decide, tb_in (qt_1 (List.mem_of_getElem? (i := 215) (by decide +kernel))) rfl⟩
theorem fw_X0_47 : FW_ RX0 47 0 12 := ⟨by decide, by decide, tb_in (qt_1 (List.mem_of_getElem? (i := 219) (by decide +kernel))) rfl⟩
theorem fw_X0_51 : FW_ RX0 51 0 13 := ⟨by decide, by decide, tb_in (qt_1 (List.mem_of_getElem? (i := 222) (by decide +kernel))) rfl⟩
theorem fw_X0_65 : FW_ RX0 65 0 4 := ⟨by decide, by decide, tb_in (qt_1 (List.mem_of_getElem? (i := 196) (by decide +kernel))) rfl⟩
theorem fw_X0_73 : FW_ RX0 73 0 7 := ⟨by decide, by decide, tb_in (qt_1 (List.mem_of_getElem? (i := 206) (by decide +kernel))) rfl⟩
theorem fw_X0_76 : FW_ RX0 76 0 6 := ⟨by decide, by decide, tb_in (qt_1 (List.mem_of_getElem? (i := 202) (by decide +kernel))) rfl⟩
theorem fw_X0_82 : FW_ RX0 82 0 9 := ⟨by decide, by decide, tb_in (qt_1 (List.mem_of_getElem? (i := 212) (by decide +kernel))) rfl⟩
theorem fw_X0_88 : FW_ RX0 88 0 11 := ⟨by decide, by decide, tb_in (qt_1 (List.mem_of_getElem? (i := 217) (by decide +kernel))) rfl⟩
theorem fw_X0_94 : FW_ RX0 94 0 14 := ⟨by decide, by decide, tb_in (qt_1 (List.mem_of_getElem? (i := 226) (by decide +kernel))) rfl⟩
theorem fw_X0_100 : FW_ RX0 100 1 6 := ⟨by decide, by decide, tb_in (qt_1 (List.mem_of_getElem? (i := 98) (by decide +kernel))) rfl⟩
theorem fw_X0_115 : FW_ RX0 115 1 1 := ⟨by decide, by decide, tb_in (qt_1 (List.mem_of_getElem? (i := 87) (by decide +kernel))) rfl⟩
theorem fw_X0_118 : FW_ RX0 118 1 0 := ⟨by decide, by decide, tb_in (qt_1 (List.mem_of_getElem? (i := 84) (by decide +kernel))) rfl⟩
theorem fw_X0_126 : FW_ RX0 126 10 1 := ⟨by decide, by decide, tb_in (qt_1 (List.mem_of_getElem? (i := 73) (by decide +kernel))) rfl⟩
theorem fw_X0_129 : FW_ RX0 129 10 0 := ⟨by decide, by decide, tb_in (qt_1 (List.mem_of_getElem? (i := 64) (by decide +kernel))) rfl⟩
theorem fw_X0_151 : FW_ RX0 151 8 0 := ⟨by decide, by decide, tb_in (qt_1 (List.mem_of_getElem? (i := 168) (by decide +kernel))) rfl⟩
theorem fw_X0_154 : FW_ RX0 154 8 2 := ⟨by decide, by decide, tb_in (qt_1 (List.mem_of_getElem? (i := 174) (by decide +kernel))) rfl⟩
theorem fw_X0_161 : FW_ RX0 161 8 1 := ⟨by decide, by decide, tb_in (qt_1 (List.mem_of_getElem? (i := 171) (by decide +kernel))) rfl⟩
theorem fw_X1_12 : FW_ RX1 12 1 0 := ⟨by decide, by decide, tb_in (qt_1 (List.mem_of_getElem? (i := 80) (by decide +kernel))) rfl⟩
theorem fw_X1_18 : FW_ RX1 18 1 5 := ⟨by decide, by decide, tb_in (qt_1 (List.mem_of_getElem? (i := 94) (by decide +kernel))) rfl⟩
theorem fw_X1_22 : FW_ RX1 22 1 6 := ⟨by decide, by decide, tb_in (qt_1 (List.mem_of_getElem? (i := 96) (by decide +kernel))) rfl⟩
theorem fw_X1_26 : FW_ RX1 26 1 2 := ⟨by decide, by decide, tb_in (qt_1 (List.mem_of_getElem? (i := 89) (by decide +kernel))) rfl⟩
theorem fw_X1_29 : FW_ RX1 29 1 4 := ⟨by decide, by decide, tb_in (qt_1 (List.mem_of_getElem? (i := 93) (by decide +kernel))) rfl⟩
theorem fw_X1_32 : FW_ RX1 32 1 3 := ⟨by decide, by decide, tb_in (qt_1 (List.mem_of_getElem? (i := 91) (by decide +kernel))) rfl⟩
theorem fw_X1_35 : FW_ RX1 35 10 1 := ⟨by decide, by decide, tb_in (qt_1 (List.mem_of_getElem? (i := 71) (by decide +kernel))) rfl⟩
theorem fw_X1_38 : FW_ RX1 38 10 0 := ⟨by decide, by decide, tb_in (qt_1 (List.mem_of_getElem? (i := 61) (by decide +kernel))) rfl⟩
theorem fw_X1_46 : FW_ RX1 46 1 1 := ⟨by decide, by decide, tb_in (qt_1 (List.mem_of_getElem? (i := 86) (by decide +kernel))) rfl⟩
theorem fw_X2_11 : FW_ RX2 11 2 0 := ⟨by decide, by decide, tb_in (qt_2 (List.mem_of_getElem? (i := 27) (by decide +kernel))) rfl⟩
theorem fw_X2_15 : FW_ RX2 15 2 1 := ⟨by decide, by decide, tb_in (qt_2 (List.mem_of_getElem? (i := 28) (by decide +kernel))) rfl⟩
theorem fw_X2_18 : FW_ RX2 18 2 2 := ⟨by decide, by decide, tb_in (qt_2 (List.mem_of_getElem? (i := 30) (by decide +kernel))) rfl⟩
theorem fw_X2_21 : FW_ RX2 21 2 6 := ⟨by decide, by decide, tb_in (qt_2 (List.mem_of_getElem? (i := 38) (by decide +kernel))) rfl⟩
theorem fw_X2_24 : FW_ RX2 24 2 7 := ⟨by decide, by decide, tb_in (qt_2 (List.mem_of_getElem? (i := 39) (by decide +kernel))) rfl⟩
theorem fw_X2_27 : FW_ RX2 27 1 0 := ⟨by decide, by decide, tb_in (qt_1 (List.mem_of_getElem? (i := 81) (by decide +kernel))) rfl⟩
theorem fw_X2_37 : FW_ RX2 37 10 1 := ⟨by decide, by decide, tb_in (qt_1 (List.mem_of_getElem? (i := 67) (by decide +kernel))) rfl⟩
theorem fw_X2_43 : FW_ RX2 43 0 7 := ⟨by decide, by decide, tb_in (qt_1 (List.mem_of_getElem? (i := 205) (by decide +kernel))) rfl⟩
theorem fw_X2_62 : FW_ RX2 62 0 6 := ⟨by decide, by decide, tb_in (qt_1 (List.mem_of_getElem? (i := 203) (by decide +kernel))) rfl⟩
theorem fw_X2_65 : FW_ RX2 65 0 5 := ⟨by decide, by decide, tb_in (qt_1 (List.mem_of_getElem? (i := 199) (by decide +kernel))) rfl⟩
theorem fw_X2_69 : FW_ RX2 69 5 3 := ⟨by decide, by decide, tb_in (qt_1 (List.mem_of_getElem? (i := 125) (by decide +kernel))) rfl⟩
theorem fw_X2_83 : FW_ RX2 83 2 3 := ⟨by decide, by decide, tb_in (qt_2 (List.mem_of_getElem? (i := 32) (by decide +kernel))) rfl⟩
theorem fw_X2_86 : FW_ RX2 86 2 4 := ⟨by decide, by decide, tb_in (qt_2 (List.mem_of_getElem? (i := 34) (by decide +kernel))) rfl⟩
theorem fw_X2_89 : FW_ RX2 89 2 5 := ⟨by decide, by decide, tb_in (qt_2 (List.mem_of_getElem? (i := 36) (by decide +kernel))) rfl⟩
theorem fw_X2_102 : FW_ RX2 102 10 0 := ⟨by decide, by decide, tb_in (qt_1 (List.mem_of_getElem? (i := 63) (by decide +kernel))) rfl⟩
theorem fw_X2_111 : FW_ RX2 111 0 4 := ⟨by decide, by decide, tb_in (qt_1 (List.mem_of_getElem? (i := 197) (by decide +kernel))) rfl⟩
theorem fw_X2_114 : FW_ RX2 114 0 3 := ⟨by decide, by decide, tb_in (qt_1 (List.mem_of_getElem? (i := 194) (by decide +kernel))) rfl⟩
theorem fw_X2_126 : FW_ RX2 126 2 9 := ⟨by decide, by decide, tb_in (qt_2 (List.mem_of_getElem? (i := 42) (by decide +kernel))) rfl⟩
theorem fw_X2_129 : FW_ RX2 129 2 8 := ⟨by decide, by decide, tb_in (qt_2 (List.mem_of_getElem? (i := 40) (by decide +kernel))) rfl⟩
theorem fw_X3_11 : FW_ RX3 11 3 0 := ⟨by decide, by decide, tb_in (qt_2 (List.mem_of_getElem? (i := 71) (by decide +kernel))) rfl⟩
theorem fw_X3_17 : FW_ RX3 17 3 2 := ⟨by decide, by decide, tb_in (qt_2 (List.mem_of_getElem? (i := 74) (by decide +kernel))) rfl⟩
theorem fw_X3_20 : FW_ RX3 20 3 4 := ⟨by decide, by decide, tb_in (qt_2 (List.mem_of_getElem? (i := 78) (by decide +kernel))) rfl⟩
theorem fw_X3_23 : FW_ RX3 23 9 3 := ⟨by decide, by decide, tb_in (qt_2 (List.mem_of_getElem? (i := 161) (by decide +kernel))) rfl⟩
theorem fw_X3_29 : FW_ RX3 29 3 1 := ⟨by decide, by decide, tb_in (qt_2 (List.mem_of_getElem? (i := 72) (by decide +kernel))) rfl⟩
theorem fw_X3_30 : FW_ RX3 30 9 4 := ⟨by decide, by decide, tb_in (qt_2 (List.mem_of_getElem? (i := 167) (by decide +kernel))) rfl⟩
theorem fw_X3_43 : FW_ RX3 43 0 9 := ⟨by decide, by decide, tb_in (qt_1 (List.mem_of_getElem? (i := 213) (by decide +kernel))) rfl⟩
theorem fw_X3_48 : FW_ RX3 48 0 8 := ⟨by decide, by decide, tb_in (qt_1 (List.mem_of_getElem? (i := 210) (by decide +kernel))) rfl⟩
theorem fw_X3_52 : FW_ RX3 52 0 0 := ⟨by decide, by decide, tb_in (qt_1 (List.mem_of_getElem? (i := 185) (by decide +kernel))) rfl⟩
theorem fw_X3_59 : FW_ RX3 59 7 0 := ⟨by decide, by decide, tb_in (qt_1 (List.mem_of_getElem? (i := 142) (by decide +kernel))) rfl⟩
theorem fw_X3_66 : FW_ RX3 66 7 2 := ⟨by decide, by decide, tb_in (qt_1 (List.mem_of_getElem? (i := 146) (by decide +kernel))) rfl⟩
theorem fw_X3_69 : FW_ RX3 69 7 3 := ⟨by decide, by decide, tb_in (qt_1 (List.mem_of_getElem? (i := 148) (by decide +kernel))) rfl⟩
theorem fw_X3_72 : FW_ RX3 72 7 1 := ⟨by decide, by decide, tb_in (qt_1 (List.mem_of_getElem? (i := 144) (by decide +kernel))) rfl⟩
theorem fw_X3_83 : FW_ RX3 83 10 1 := ⟨by decide, by decide, tb_in (qt_1 (List.mem_of_getElem? (i := 72) (by decide +kernel))) rfl⟩
theorem fw_X3_98 : FW_ RX3 98 3 3 := ⟨by decide, by decide, tb_in (qt_2 (List.mem_of_getElem? (i := 76) (by decide +kernel))) rfl⟩
theorem fw_X3_101 : FW_ RX3 101 0 7 := ⟨by decide, by decide, tb_in (qt_1 (List.mem_of_getElem? (i := 207) (by decide +kernel))) rfl⟩
theorem fw_X3_104 : FW_ RX3 104 0 5 := ⟨by decide, by decide, tb_in (qt_1 (List.mem_of_getElem? (i := 200) (by decide +kernel))) rfl⟩
theorem fw_X3_108 : FW_ RX3 108 5 3 := ⟨by decide, by decide, tb_in (qt_1 (List.mem_of_getElem? (i := 126) (by decide +kernel))) rfl⟩
theorem fw_X3_114 : FW_ RX3 114 10 0 := ⟨by decide, by decide, tb_in (qt_1 (List.mem_of_getElem? (i := 65) (by decide +kernel))) rfl⟩
theorem fw_X4_9 : FW_ RX4 9 4 0 := ⟨by decide, by decide, tb_in (qt_2 (List.mem_of_getElem? (i := 131) (by decide +kernel))) rfl⟩
theorem fw_X4_15 : FW_ RX4 15 4 1 := ⟨by decide, by decide, tb_in (qt_2 (List.mem_of_getElem? (i := 132) (by decide +kernel))) rfl⟩
theorem fw_X4_18 : FW_ RX4 18 4 3 := ⟨by decide, by decide, tb_in (qt_2 (List.mem_of_getElem? (i := 136) (by decide +kernel))) rfl⟩
theorem fw_X4_21 : FW_ RX4 21 0 14 := ⟨by decide, by decide, tb_in (qt_1 (List.mem_of_getElem? (i := 225) (by decide +kernel))) rfl⟩
theorem fw_X4_37 : FW_ RX4 37 0 3 := ⟨by decide, by decide, tb_in (qt_1 (List.mem_of_getElem? (i := 193) (by decide +kernel))) rfl⟩
theorem fw_X4_41 : FW_ RX4 41 0 13 := ⟨by decide, by decide, tb_in (qt_1 (List.mem_of_getElem? (i := 223) (by decide +kernel))) rfl⟩
theorem fw_X4_44 : FW_ RX4 44 1 0 := ⟨by decide, by decide, tb_in (qt_1 (List.mem_of_getElem? (i := 83) (by decide +kernel))) rfl⟩
theorem fw_X4_50 : FW_ RX4 50 0 12 := ⟨by decide, by decide, tb_in (qt_1 (List.mem_of_getElem? (i := 220) (by decide +kernel))) rfl⟩
theorem fw_X4_54 : FW_ RX4 54 10 1 := ⟨by decide, by decide, tb_in (qt_1 (List.mem_of_getElem? (i := 69) (by decide +kernel))) rfl⟩
theorem fw_X4_59 : FW_ RX4 59 10 0 := ⟨by decide, by decide, tb_in (qt_1 (List.mem_of_getElem? (i := 60) (by decide +kernel))) rfl⟩
theorem fw_X4_62 : FW_ RX4 62 4 2 := ⟨by decide, by decide, tb_in (qt_2 (List.mem_of_getElem? (i := 134) (by decide +kernel))) rfl⟩
theorem fw_X5_12 : FW_ RX5 12 5 2 := ⟨by decide, by decide, tb_in (qt_1 (List.mem_of_getElem? (i := 123) (by decide +kernel))) rfl⟩
theorem fw_X5_18 : FW_ RX5 18 5 3 := ⟨by decide, by decide, tb_in (qt_1 (List.mem_of_getElem? (i := 124) (by decide +kernel))) rfl⟩
theorem fw_X5_21 : FW_ RX5 21 5 0 := ⟨by decide, by decide, tb_in (qt_1 (List.mem_of_getElem? (i := 121) (by decide +kernel))) rfl⟩
theorem fw_X5_25 : FW_ RX5 25 5 1 := ⟨by decide, by decide, tb_in (qt_1 (List.mem_of_getElem? (i := 122) (by decide +kernel))) rfl⟩
theorem fw_X5_36 : FW_ RX5 36 10 1 := ⟨by decide, by decide, tb_in (qt_1 (List.mem_of_getElem? (i := 68) (by decide +kernel))) rfl⟩
theorem fw_X5_39 : FW_ RX5 39 10 0 := ⟨by decide, by decide, tb_in (qt_1 (List.mem_of_getElem? (i := 59) (by decide +kernel))) rfl⟩
theorem fw_X6_9 : FW_ RX6 9 6 0 := ⟨by decide, by decide, tb_in (qt_2 (List.mem_of_getElem? (i := 110) (by decide +kernel))) rfl⟩
theorem fw_X6_15 : FW_ RX6 15 6 1 := ⟨by decide, by decide, tb_in (qt_2 (List.mem_of_getElem? (i := 111) (by decide +kernel))) rfl⟩
theorem fw_X6_35 : FW_ RX6 35 6 3 := ⟨by decide, by decide, tb_in (qt_2 (List.mem_of_getElem? (i := 114) (by decide +kernel))) rfl⟩
theorem fw_X6_58 : FW_ RX6 58 6 2 := ⟨by decide, by decide, tb_in (qt_2 (List.mem_of_getElem? (i := 112) (by decide +kernel))) rfl⟩
theorem fw_X7_11 : FW_ RX7 11 7 0 := ⟨by decide, by decide, tb_in (qt_1 (List.mem_of_getElem? (i := 141) (by decide +kernel))) rfl⟩
theorem fw_X7_15 : FW_ RX7 15 7 1 := ⟨by decide, by decide, tb_in (qt_1 (List.mem_of_getElem? (i := 143) (by decide +kernel))) rfl⟩
theorem fw_X7_18 : FW_ RX7 18 7 2 := ⟨by decide, by decide, tb_in (qt_1 (List.mem_of_getElem? (i := 145) (by decide +kernel))) rfl⟩
theorem fw_X7_21 : FW_ RX7 21 7 3 := ⟨by decide, by decide, tb_in (qt_1 (List.mem_of_getElem? (i := 147) (by decide +kernel))) rfl⟩
theorem fw_X7_24 : FW_ RX7 24 7 4 := ⟨by decide, by decide, tb_in (qt_1 (List.mem_of_getElem? (i := 149) (by decide +kernel))) rfl⟩
theorem fw_X7_42 : FW_ RX7 42 9 3 := ⟨by decide, by decide, tb_in (qt_2 (List.mem_of_getElem? (i := 162) (by decide +kernel))) rfl⟩
theorem fw_X7_47 : FW_ RX7 47 9 4 := ⟨by decide, by decide, tb_in (qt_2 (List.mem_of_getElem? (i := 169) (by decide +kernel))) rfl⟩
theorem fw_X8_7 : FW_ RX8 7 8 0 := ⟨by decide, by decide, tb_in (qt_1 (List.mem_of_getElem? (i := 167) (by decide +kernel))) rfl⟩
theorem fw_X8_13 : FW_ RX8 13 8 1 := ⟨by decide, by decide, tb_in (qt_1 (List.mem_of_getElem? (i := 170) (by decide +kernel))) rfl⟩
theorem fw_X8_16 : FW_ RX8 16 8 2 := ⟨by decide, by decide, tb_in (qt_1 (List.mem_of_getElem? (i := 173) (by decide +kernel))) rfl⟩
theorem fw_X9_11 : FW_ RX9 11 9 0 := ⟨by decide, by decide, tb_in (qt_2 (List.mem_of_getElem? (i := 155) (by decide +kernel))) rfl⟩
theorem fw_X9_18 : FW_ RX9 18 9 1 := ⟨by decide, by decide, tb_in (qt_2 (List.mem_of_getElem? (i := 157) (by decide +kernel))) rfl⟩
theorem fw_X9_22 : FW_ RX9 22 9 4 := ⟨by decide, by decide, tb_in (qt_2 (List.mem_of_getElem? (i := 166) (by decide +kernel))) rfl⟩
theorem fw_X9_30 : FW_ RX9 30 9 2 := ⟨by decide, by decide, tb_in (qt_2 (List.mem_of_getElem? (i := 159) (by decide +kernel))) rfl⟩
theorem fw_X9_33 : FW_ RX9 33 9 3 := ⟨by decide, by decide, tb_in (qt_2 (List.mem_of_getElem? (i := 164) (by decide +kernel))) rfl⟩
theorem fw_X10_9 : FW_ RX10 9 10 0 := ⟨by decide, by decide, tb_in (qt_1 (List.mem_of_getElem? (i := 58) (by decide +kernel))) rfl⟩
theorem fw_X10_15 : FW_ RX10 15 10 1 := ⟨by decide, by decide, tb_in (qt_1 (List.mem_of_getElem? (i := 66) (by decide +kernel))) rfl⟩
theorem fw_X10_22 : FW_ RX10 22 9 3 := ⟨by decide, by decide, tb_in (qt_2 (List.mem_of_getElem? (i := 163) (by decide +kernel))) rfl⟩
theorem fw_X10_25 : FW_ RX10 25 9 4 := ⟨by decide, by decide, tb_in (qt_2 (List.mem_of_getElem? (i := 168) (by decide +kernel))) rfl⟩
theorem fw_X12_9 : FW_ RX12 9 12 0 := ⟨by decide, by decide, tb_in (qt_5 (List.mem_of_getElem? (i := 116) (by decide +kernel))) rfl⟩
theorem fw_X12_13 : FW_ RX12 13 12 1 := ⟨by decide, by decide, tb_in (qt_5 (List.mem_of_getElem? (i := 117) (by decide +kernel))) rfl⟩
theorem fw_X12_16 : FW_ RX12 16 12 2 := ⟨by decide, by decide, tb_in (qt_5 (List.mem_of_getElem? (i := 118) (by decide +kernel))) rfl⟩
theorem fw_X12_19 : FW_ RX12 19 12 3 := ⟨by decide, by decide, tb_in (qt_5 (List.mem_of_getElem? (i := 119) (by decide +kernel))) rfl⟩
theorem fw_X12_22 : FW_ RX12 22 12 4 := ⟨by decide, by decide, tb_in (qt_5 (List.mem_of_getElem? (i := 120) (by decide +kernel))) rfl⟩
theorem fw_X12_25 : FW_ RX12 25 12 5 := ⟨by decide, by decide, tb_in (qt_5 (List.mem_of_getElem? (i := 121) (by decide +kernel))) rfl⟩
theorem fw_X12_28 : FW_ RX12 28 12 6 := ⟨by decide, by decide, tb_in (qt_5 (List.mem_of_getElem? (i := 122) (by decide +kernel))) rfl⟩
theorem fw_X12_31 : FW_ RX12 31 12 7 := ⟨by decide, by decide, tb_in (qt_5 (List.mem_of_getElem? (i := 123) (by decide +kernel))) rfl⟩
theorem fw_X12_34 : FW_ RX12 34 12 11 := ⟨by decide, by decide, tb_in (qt_5 (List.mem_of_getElem? (i := 127) (by decide +kernel))) rfl⟩
theorem fw_X12_37 : FW_ RX12 37 12 12 := ⟨by decide, by decide, tb_in (qt_5 (List.mem_of_getElem? (i := 128) (by decide +kernel))) rfl⟩
theorem fw_X12_40 : FW_ RX12 40 12 13 := ⟨by decide, by decide, tb_in (qt_5 (List.mem_of_getElem? (i := 129) (by decide +kernel))) rfl⟩
theorem fw_X12_43 : FW_ RX12 43 12 17 := ⟨by decide, by decide, tb_in (qt_5 (List.mem_of_getElem? (i := 133) (by decide +kernel))) rfl⟩
theorem fw_X12_46 : FW_ RX12 46 12 18 := ⟨by decide, by decide, tb_in (qt_5 (List.mem_of_getElem? (i := 134) (by decide +kernel))) rfl⟩
theorem fw_X12_49 : FW_ RX12 49 12 19 := ⟨by decide, by decide, tb_in (qt_5 (List.mem_of_getElem? (i := 135) (by decide +kernel))) rfl⟩
theorem fw_X12_52 : FW_ RX12 52 12 23 := ⟨by decide, by decide, tb_in (qt_5 (List.mem_of_getElem? (i := 139) (by decide +kernel))) rfl⟩
theorem fw_X12_56 : FW_ RX12 56 12 26 := ⟨by decide, by decide, tb_in (qt_5 (List.mem_of_getElem? (i := 142) (by decide +kernel))) rfl⟩
theorem fw_X12_59 : FW_ RX12 59 12 27 := ⟨by decide, by decide, tb_in (qt_5 (List.mem_of_getElem? (i := 143) (by decide +kernel))) rfl⟩
theorem fw_X12_62 : FW_ RX12 62 12 28 := ⟨by decide, by decide, tb_in (qt_5 (List.mem_of_getElem? (i := 144) (by decide +kernel))) rfl⟩
theorem fw_X12_65 : FW_ RX12 65 12 9 := ⟨by decide, by decide, tb_in (qt_5 (List.mem_of_getElem? (i := 125) (by decide +kernel))) rfl⟩
theorem fw_X12_108 : FW_ RX12 108 12 10 := ⟨by decide, by decide, tb_in (qt_5 (List.mem_of_getElem? (i := 126) (by decide +kernel))) rfl⟩
theorem fw_X12_164 : FW_ RX12 164 12 14 := ⟨by decide, by decide, tb_in (qt_5 (List.mem_of_getElem? (i := 130) (by decide +kernel))) rfl⟩
theorem fw_X12_167 : FW_ RX12 167 12 16 := ⟨by decide, by decide, tb_in (qt_5 (List.mem_of_getElem? (i := 132) (by decide +kernel))) rfl⟩
theorem fw_X12_170 : FW_ RX12 170 12 15 := ⟨by decide, by decide, tb_in (qt_5 (List.mem_of_getElem? (i := 131) (by decide +kernel))) rfl⟩
theorem fw_X12_194 : FW_ RX12 194 12 20 := ⟨by decide, by decide, tb_in (qt_5 (List.mem_of_getElem? (i := 136) (by decide +kernel))) rfl⟩
theorem fw_X12_206 : FW_ RX12 206 12 21 := ⟨by decide, by decide, tb_in (qt_5 (List.mem_of_getElem? (i := 137) (by decide +kernel))) rfl⟩
theorem fw_X12_209 : FW_ RX12 209 12 22 := ⟨by decide, by decide, tb_in (qt_5 (List.mem_of_getElem? (i := 138) (by decide +kernel))) rfl⟩
theorem fw_X12_246 : FW_ RX12 246 12 25 := ⟨by decide, by decide, tb_in (qt_5 (List.mem_of_getElem? (i := 141) (by decide +kernel))) rfl⟩
theorem fw_X12_249 : FW_ RX12 249 12 24 := ⟨by decide, by decide, tb_in (qt_5 (List.mem_of_getElem? (i := 140) (by decide +kernel))) rfl⟩
theorem fw_X12_272 : FW_ RX12 272 12 29 := ⟨by decide, by decide, tb_in (qt_5 (List.mem_of_getElem? (i := 145) (by decide +kernel))) rfl⟩
theorem fw_X12_275 : FW_ RX12 275 12 30 := ⟨by decide, by decide, tb_in (qt_5 (List.mem_of_getElem? (i := 146) (by decide +kernel))) rfl⟩
theorem fw_X12_284 : FW_ RX12 284 12 31 := ⟨by decide, by decide, tb_in (qt_5 (List.mem_of_getElem? (i := 147) (by decide +kernel))) rfl⟩
theorem fw_X12_287 : FW_ RX12 287 12 32 := ⟨by decide, by decide, tb_in (qt_5 (List.mem_of_getElem? (i := 148) (by decide +kernel))) rfl⟩
theorem fw_X12_298 : FW_ RX12 298 12 8 := ⟨by decide, by decide, tb_in (qt_5 (List.mem_of_getElem? (i := 124) (by decide +kernel))) rfl⟩
theorem l1_X11_61 : L1_ RX11 61 yX11_isIn := tb_in (qt_2 (List.mem_of_getElem? (i := 214) (by decide +kernel))) rfl
theorem l1_X11_65 : L1_ RX11 65 yX11_isTold := tb_in (qt_2 (List.mem_of_getElem? (i := 215) (by decide +kernel))) rfl
theorem l1_X11_73 : L1_ RX11 73 yX9_refusalOfSounds := tb_in (qt_2 (List.mem_of_getElem? (i := 218) (by decide +kernel))) rfl
theorem l1_X11_87 : L1_ RX11 87 yX10_takeRow := tb_in (qt_2 (List.mem_of_getElem? (i := 231) (by decide +kernel))) rfl
theorem l1_X11_128 : L1_ RX11 128 yX0_areTwo := tb_in (qt_3 (List.mem_of_getElem? (i := 23) (by decide +kernel))) rfl
theorem l1_X11_131 : L1_ RX11 131 yX0_doMeet := tb_in (qt_3 (List.mem_of_getElem? (i := 38) (by decide +kernel))) rfl
theorem l1_X11_143 : L1_ RX11 143 yX5_become := tb_in (qt_3 (List.mem_of_getElem? (i := 58) (by decide +kernel))) rfl
theorem l1_X11_150 : L1_ RX11 150 yX5_lengthTold := tb_in (qt_3 (List.mem_of_getElem? (i := 79) (by decide +kernel))) rfl
theorem l1_X11_154 : L1_ RX11 154 yX11_meaningOf := tb_in (qt_3 (List.mem_of_getElem? (i := 83) (by decide +kernel))) rfl
theorem l1_X11_158 : L1_ RX11 158 yX2_cutUp := tb_in (qt_3 (List.mem_of_getElem? (i := 88) (by decide +kernel))) rfl
theorem l1_X11_171 : L1_ RX11 171 yX2_findLeastList := tb_in (qt_3 (List.mem_of_getElem? (i := 133) (by decide +kernel))) rfl
theorem l1_X11_181 : L1_ RX11 181 yX9_refusalOfBytes := tb_in (qt_3 (List.mem_of_getElem? (i := 151) (by decide +kernel))) rfl
theorem l1_X11_184 : L1_ RX11 184 yX7_isRead := tb_in (qt_3 (List.mem_of_getElem? (i := 152) (by decide +kernel))) rfl
theorem l1_X11_198 : L1_ RX11 198 yX7_take := tb_in (qt_3 (List.mem_of_getElem? (i := 177) (by decide +kernel))) rfl
theorem l1_X11_202 : L1_ RX11 202 yX3_takeRow := tb_in (qt_3 (List.mem_of_getElem? (i := 185) (by decide +kernel))) rfl
theorem l1_X11_203 : L1_ RX11 203 yX3_hear := tb_in (qt_3 (List.mem_of_getElem? (i := 190) (by decide +kernel))) rfl
theorem l1_X11_206 : L1_ RX11 206 yX3_giveRow := tb_in (qt_3 (List.mem_of_getElem? (i := 201) (by decide +kernel))) rfl
theorem l1_X11_210 : L1_ RX11 210 yX3_findDeep := tb_in (qt_3 (List.mem_of_getElem? (i := 214) (by decide +kernel))) rfl
theorem l1_X11_223 : L1_ RX11 223 yX11_refusalOfSaying := tb_in (qt_4 (List.mem_of_getElem? (i := 3) (by decide +kernel))) rfl
theorem l1_X11_231 : L1_ RX11 231 yX6_fitting := tb_in (qt_4 (List.mem_of_getElem? (i := 7) (by decide +kernel))) rfl
theorem l1_X11_247 : L1_ RX11 247 yX11_isVillageOrAll := tb_in (qt_4 (List.mem_of_getElem? (i := 17) (by decide +kernel))) rfl
theorem l1_X11_250 : L1_ RX11 250 yX0_setOfOrders := tb_in (qt_4 (List.mem_of_getElem? (i := 20) (by decide +kernel))) rfl
theorem l1_X11_253 : L1_ RX11 253 yJ6_bitCount_0f7a4 := tb_in (qt_4 (List.mem_of_getElem? (i := 29) (by decide +kernel))) rfl
theorem l1_X11_258 : L1_ RX11 258 yX6_findAsk := tb_in (qt_4 (List.mem_of_getElem? (i := 43) (by decide +kernel))) rfl
theorem l1_X11_268 : L1_ RX11 268 yX0_saidBy := tb_in (qt_4 (List.mem_of_getElem? (i := 58) (by decide +kernel))) rfl
theorem l1_X11_271 : L1_ RX11 271 yX0_isRested := tb_in (qt_4 (List.mem_of_getElem? (i := 62) (by decide +kernel))) rfl
theorem l1_X11_274 : L1_ RX11 274 yX0_leastWithoutOrder := tb_in (qt_4 (List.mem_of_getElem? (i := 70) (by decide +kernel))) rfl
theorem l1_X11_278 : L1_ RX11 278 yX1_isCounted := tb_in (qt_3 (List.mem_of_getElem? (i := 87) (by decide +kernel))) rfl
theorem l1_X11_298 : L1_ RX11 298 yX4_makeAsTold := tb_in (qt_4 (List.mem_of_getElem? (i := 91) (by decide +kernel))) rfl
theorem l1_X11_306 : L1_ RX11 306 yX4_ledPairs := tb_in (qt_4 (List.mem_of_getElem? (i := 108) (by decide +kernel))) rfl
theorem l1_X11_310 : L1_ RX11 310 yX4_waysToDeal := tb_in (qt_4 (List.mem_of_getElem? (i := 120) (by decide +kernel))) rfl
theorem l1_X11_313 : L1_ RX11 313 yX4_countOdds := tb_in (qt_4 (List.mem_of_getElem? (i := 123) (by decide +kernel))) rfl
theorem l1_X11_317 : L1_ RX11 317 yX11_pairsOf := tb_in (qt_4 (List.mem_of_getElem? (i := 152) (by decide +kernel))) rfl
theorem l1_X11_321 : L1_ RX11 321 yX0_take := tb_in (qt_4 (List.mem_of_getElem? (i := 169) (by decide +kernel))) rfl
theorem l1_X11_326 : L1_ RX11 326 yX0_keptCards := tb_in (qt_4 (List.mem_of_getElem? (i := 197) (by decide +kernel))) rfl
theorem l1_X11_329 : L1_ RX11 329 yX11_cardsWithSingles := tb_in (qt_4 (List.mem_of_getElem? (i := 201) (by decide +kernel))) rfl
theorem l1_X11_332 : L1_ RX11 332 yX9_holdNothing := tb_in (qt_4 (List.mem_of_getElem? (i := 209) (by decide +kernel))) rfl
theorem l1_X11_335 : L1_ RX11 335 yX9_holdNote := tb_in (qt_4 (List.mem_of_getElem? (i := 213) (by decide +kernel))) rfl
theorem l1_X11_339 : L1_ RX11 339 yX9_holdRow := tb_in (qt_4 (List.mem_of_getElem? (i := 222) (by decide +kernel))) rfl
theorem l1_X11_343 : L1_ RX11 343 yX9_refusalOfRow := tb_in (qt_4 (List.mem_of_getElem? (i := 227) (by decide +kernel))) rfl
theorem l1_X11_346 : L1_ RX11 346 yX9_set := tb_in (qt_4 (List.mem_of_getElem? (i := 228) (by decide +kernel))) rfl
theorem l1_X11_369 : L1_ RX11 369 yX9_hasPlaces := tb_in (qt_4 (List.mem_of_getElem? (i := 236) (by decide +kernel))) rfl
theorem l1_X11_372 : L1_ RX11 372 arraycopyName := tb_in (qt_5 (List.mem_of_getElem? (i := 0) (by decide +kernel))) rfl
theorem l1_X11_378 : L1_ RX11 378 yX9_refusalOfNote := tb_in (qt_5 (List.mem_of_getElem? (i := 5) (by decide +kernel))) rfl
theorem l1_X11_385 : L1_ RX11 385 yX5_failure := tb_in (qt_5 (List.mem_of_getElem? (i := 13) (by decide +kernel))) rfl
theorem l1_X11_388 : L1_ RX11 388 yX6_isSaying := tb_in (qt_4 (List.mem_of_getElem? (i := 6) (by decide +kernel))) rfl
theorem l1_X11_392 : L1_ RX11 392 yX1_isOtherHearing := tb_in (qt_4 (List.mem_of_getElem? (i := 156) (by decide +kernel))) rfl
theorem l1_X11_396 : L1_ RX11 396 yX10_isLike := tb_in (qt_4 (List.mem_of_getElem? (i := 160) (by decide +kernel))) rfl
theorem l1_X0_59 : L1_ RX0 59 arraycopyName := tb_in (qt_4 (List.mem_of_getElem? (i := 173) (by decide +kernel))) rfl
theorem l1_X0_69 : L1_ RX0 69 yX1_take := tb_in (qt_4 (List.mem_of_getElem? (i := 174) (by decide +kernel))) rfl
theorem l1_X0_79 : L1_ RX0 79 yX5_take := tb_in (qt_4 (List.mem_of_getElem? (i := 179) (by decide +kernel))) rfl
theorem l1_X0_85 : L1_ RX0 85 yX7_take := tb_in (qt_4 (List.mem_of_getElem? (i := 183) (by decide +kernel))) rfl
theorem l1_X0_91 : L1_ RX0 91 yX8_take := tb_in (qt_4 (List.mem_of_getElem? (i := 184) (by decide +kernel))) rfl
theorem l1_X0_97 : L1_ RX0 97 yX10_take := tb_in (qt_4 (List.mem_of_getElem? (i := 188) (by decide +kernel))) rfl
theorem l1_X0_103 : L1_ RX0 103 yX0_isToldPair := tb_in (qt_3 (List.mem_of_getElem? (i := 27) (by decide +kernel))) rfl
theorem l1_X0_107 : L1_ RX0 107 yX1_differsOnlyBy := tb_in (qt_3 (List.mem_of_getElem? (i := 34) (by decide +kernel))) rfl
theorem l1_X0_111 : L1_ RX0 111 yX1_isCounted := tb_in (qt_3 (List.mem_of_getElem? (i := 30) (by decide +kernel))) rfl
theorem l1_X0_122 : L1_ RX0 122 yX0_meetsFrom := tb_in (qt_3 (List.mem_of_getElem? (i := 42) (by decide +kernel))) rfl
theorem l1_X0_132 : L1_ RX0 132 yX10_soundOrEdge := tb_in (qt_3 (List.mem_of_getElem? (i := 46) (by decide +kernel))) rfl
theorem l1_X0_136 : L1_ RX0 136 yX0_isSaidBetween := tb_in (qt_3 (List.mem_of_getElem? (i := 50) (by decide +kernel))) rfl
theorem l1_X0_140 : L1_ RX0 140 yX5_lengthTold := tb_in (qt_3 (List.mem_of_getElem? (i := 141) (by decide +kernel))) rfl
theorem l1_X0_147 : L1_ RX0 147 yX0_leftBy := tb_in (qt_4 (List.mem_of_getElem? (i := 25) (by decide +kernel))) rfl
theorem l1_X0_157 : L1_ RX0 157 yX0_lowestBelow := tb_in (qt_4 (List.mem_of_getElem? (i := 74) (by decide +kernel))) rfl
theorem l1_X1_42 : L1_ RX1 42 yX10_take := tb_in (qt_4 (List.mem_of_getElem? (i := 178) (by decide +kernel))) rfl
theorem l1_X2_33 : L1_ RX2 33 yX2_findStanding := tb_in (qt_3 (List.mem_of_getElem? (i := 92) (by decide +kernel))) rfl
theorem l1_X2_48 : L1_ RX2 48 yX2_leastCost := tb_in (qt_3 (List.mem_of_getElem? (i := 103) (by decide +kernel))) rfl
theorem l1_X2_52 : L1_ RX2 52 yX2_chooseParts := tb_in (qt_3 (List.mem_of_getElem? (i := 110) (by decide +kernel))) rfl
theorem l1_X2_56 : L1_ RX2 56 yJ7_fill_53178 := tb_in (qt_3 (List.mem_of_getElem? (i := 96) (by decide +kernel))) rfl
theorem l1_X2_74 : L1_ RX2 74 yX10_standsAt := tb_in (qt_3 (List.mem_of_getElem? (i := 99) (by decide +kernel))) rfl
theorem l1_X2_78 : L1_ RX2 78 yJ9_min_7cf53 := tb_in (qt_3 (List.mem_of_getElem? (i := 107) (by decide +kernel))) rfl
theorem l1_X2_92 : L1_ RX2 92 yX2_longestNote := tb_in (qt_3 (List.mem_of_getElem? (i := 114) (by decide +kernel))) rfl
theorem l1_X2_96 : L1_ RX2 96 yJ6_numberOfTrailingZeros_0f7a4 := tb_in (qt_3 (List.mem_of_getElem? (i := 118) (by decide +kernel))) rfl
theorem l1_X2_105 : L1_ RX2 105 yJ9_max_7cf53 := tb_in (qt_3 (List.mem_of_getElem? (i := 122) (by decide +kernel))) rfl
theorem l1_X2_108 : L1_ RX2 108 yX0_lengthsOf := tb_in (qt_3 (List.mem_of_getElem? (i := 137) (by decide +kernel))) rfl
theorem l1_X2_118 : L1_ RX2 118 yX1_isCounted := tb_in (qt_3 (List.mem_of_getElem? (i := 142) (by decide +kernel))) rfl
theorem l1_X2_122 : L1_ RX2 122 yX2_addCosts := tb_in (qt_3 (List.mem_of_getElem? (i := 143) (by decide +kernel))) rfl
theorem l1_X3_33 : L1_ RX3 33 arraycopyName := tb_in (qt_3 (List.mem_of_getElem? (i := 189) (by decide +kernel))) rfl
theorem l1_X3_39 : L1_ RX3 39 yX9_holdRow := tb_in (qt_3 (List.mem_of_getElem? (i := 205) (by decide +kernel))) rfl
theorem l1_X3_55 : L1_ RX3 55 yX3_apply := tb_in (qt_3 (List.mem_of_getElem? (i := 194) (by decide +kernel))) rfl
theorem l1_X3_62 : L1_ RX3 62 yX7_agrees := tb_in (qt_3 (List.mem_of_getElem? (i := 198) (by decide +kernel))) rfl
theorem l1_X3_75 : L1_ RX3 75 yX3_findChances := tb_in (qt_3 (List.mem_of_getElem? (i := 218) (by decide +kernel))) rfl
theorem l1_X3_79 : L1_ RX3 79 yX3_isSpelled := tb_in (qt_3 (List.mem_of_getElem? (i := 226) (by decide +kernel))) rfl
theorem l1_X3_86 : L1_ RX3 86 yX3_hasChance := tb_in (qt_3 (List.mem_of_getElem? (i := 230) (by decide +kernel))) rfl
theorem l1_X3_90 : L1_ RX3 90 yX3_hear := tb_in (qt_3 (List.mem_of_getElem? (i := 234) (by decide +kernel))) rfl
theorem l1_X3_94 : L1_ RX3 94 yX3_isRowLike := tb_in (qt_3 (List.mem_of_getElem? (i := 235) (by decide +kernel))) rfl
theorem l1_X3_117 : L1_ RX3 117 yX3_outcomesOf := tb_in (qt_3 (List.mem_of_getElem? (i := 222) (by decide +kernel))) rfl
theorem l1_X4_27 : L1_ RX4 27 yX4_make := tb_in (qt_4 (List.mem_of_getElem? (i := 95) (by decide +kernel))) rfl
theorem l1_X4_31 : L1_ RX4 31 yJ7_fill_53178 := tb_in (qt_4 (List.mem_of_getElem? (i := 99) (by decide +kernel))) rfl
theorem l1_X4_65 : L1_ RX4 65 yX4_findLaw := tb_in (qt_4 (List.mem_of_getElem? (i := 100) (by decide +kernel))) rfl
theorem l1_X4_69 : L1_ RX4 69 yX4_isLed := tb_in (qt_4 (List.mem_of_getElem? (i := 112) (by decide +kernel))) rfl
theorem l1_X4_73 : L1_ RX4 73 yX4_makeAsTold := tb_in (qt_4 (List.mem_of_getElem? (i := 127) (by decide +kernel))) rfl
theorem l1_X4_76 : L1_ RX4 76 yX4_dealAnew := tb_in (qt_4 (List.mem_of_getElem? (i := 128) (by decide +kernel))) rfl
theorem l1_X4_79 : L1_ RX4 79 yX4_swap := tb_in (qt_4 (List.mem_of_getElem? (i := 132) (by decide +kernel))) rfl
theorem l1_X5_28 : L1_ RX5 28 yX10_takeRow := tb_in (qt_3 (List.mem_of_getElem? (i := 62) (by decide +kernel))) rfl
theorem l1_X5_32 : L1_ RX5 32 yX10_take := tb_in (qt_3 (List.mem_of_getElem? (i := 63) (by decide +kernel))) rfl
theorem l1_X5_43 : L1_ RX5 43 yX10_add := tb_in (qt_3 (List.mem_of_getElem? (i := 70) (by decide +kernel))) rfl
theorem l1_X6_18 : L1_ RX6 18 yX6_spell := tb_in (qt_2 (List.mem_of_getElem? (i := 96) (by decide +kernel))) rfl
theorem l1_X6_22 : L1_ RX6 22 yX6_isSaying := tb_in (qt_2 (List.mem_of_getElem? (i := 100) (by decide +kernel))) rfl
theorem l1_X6_39 : L1_ RX6 39 yX6_weigh := tb_in (qt_4 (List.mem_of_getElem? (i := 47) (by decide +kernel))) rfl
theorem l1_X6_42 : L1_ RX6 42 yX6_fitting := tb_in (qt_4 (List.mem_of_getElem? (i := 51) (by decide +kernel))) rfl
theorem l1_X6_46 : L1_ RX6 46 yJ6_bitCount_0f7a4 := tb_in (qt_4 (List.mem_of_getElem? (i := 52) (by decide +kernel))) rfl
theorem l1_X6_52 : L1_ RX6 52 yJ9_max_7cf53 := tb_in (qt_4 (List.mem_of_getElem? (i := 53) (by decide +kernel))) rfl
theorem l1_X7_27 : L1_ RX7 27 yX7_readSoundOrClass := tb_in (qt_3 (List.mem_of_getElem? (i := 156) (by decide +kernel))) rfl
theorem l1_X7_31 : L1_ RX7 31 yX7_readSign := tb_in (qt_3 (List.mem_of_getElem? (i := 160) (by decide +kernel))) rfl
theorem l1_X7_35 : L1_ RX7 35 yX7_readDigit := tb_in (qt_3 (List.mem_of_getElem? (i := 164) (by decide +kernel))) rfl
theorem l1_X7_39 : L1_ RX7 39 yX7_readPlace := tb_in (qt_3 (List.mem_of_getElem? (i := 169) (by decide +kernel))) rfl
theorem l1_X9_26 : L1_ RX9 26 yX5_take := tb_in (qt_4 (List.mem_of_getElem? (i := 217) (by decide +kernel))) rfl
theorem l1_X9_36 : L1_ RX9 36 yJ7_fill_53178 := tb_in (qt_3 (List.mem_of_getElem? (i := 209) (by decide +kernel))) rfl
theorem l1_X9_42 : L1_ RX9 42 yX9_refusalOfRow := tb_in (qt_2 (List.mem_of_getElem? (i := 226) (by decide +kernel))) rfl
theorem l1_X9_46 : L1_ RX9 46 yX9_refusalOfBytes := tb_in (qt_2 (List.mem_of_getElem? (i := 222) (by decide +kernel))) rfl
theorem l1_X10_19 : L1_ RX10 19 yX10_clear := tb_in (qt_2 (List.mem_of_getElem? (i := 235) (by decide +kernel))) rfl
theorem l1_X10_28 : L1_ RX10 28 yX10_add := tb_in (qt_2 (List.mem_of_getElem? (i := 239) (by decide +kernel))) rfl
theorem l1_X10_32 : L1_ RX10 32 arraycopyName := tb_in (qt_3 (List.mem_of_getElem? (i := 67) (by decide +kernel))) rfl
theorem l1_X10_38 : L1_ RX10 38 yX10_standsAt := tb_in (qt_4 (List.mem_of_getElem? (i := 164) (by decide +kernel))) rfl
theorem l1_X12_69 : L1_ RX12 69 yX12_isIn := tb_in (qt_5 (List.mem_of_getElem? (i := 229) (by decide +kernel))) rfl
theorem l1_X12_75 : L1_ RX12 75 yX12_isShelf := tb_in (qt_5 (List.mem_of_getElem? (i := 225) (by decide +kernel))) rfl
theorem l1_X12_79 : L1_ RX12 79 yX12_wrongRow := tb_in (qt_5 (List.mem_of_getElem? (i := 238) (by decide +kernel))) rfl
theorem l1_X12_89 : L1_ RX12 89 yX12_wrongSounds := tb_in (qt_5 (List.mem_of_getElem? (i := 234) (by decide +kernel))) rfl
theorem l1_X12_93 : L1_ RX12 93 yX12_isCard := tb_in (qt_6 (List.mem_of_getElem? (i := 7) (by decide +kernel))) rfl
theorem l1_X12_98 : L1_ RX12 98 yX12_of := tb_in (qt_6 (List.mem_of_getElem? (i := 12) (by decide +kernel))) rfl
theorem l1_X12_103 : L1_ RX12 103 yX12_becomes := tb_in (qt_6 (List.mem_of_getElem? (i := 25) (by decide +kernel))) rfl
theorem l1_X12_111 : L1_ RX12 111 yX12_counts := tb_in (qt_6 (List.mem_of_getElem? (i := 42) (by decide +kernel))) rfl
theorem l1_X12_114 : L1_ RX12 114 yX12_others := tb_in (qt_6 (List.mem_of_getElem? (i := 46) (by decide +kernel))) rfl
theorem l1_X12_117 : L1_ RX12 117 yX12_beside := tb_in (qt_6 (List.mem_of_getElem? (i := 54) (by decide +kernel))) rfl
theorem l1_X12_120 : L1_ RX12 120 yX12_areTwo := tb_in (qt_6 (List.mem_of_getElem? (i := 38) (by decide +kernel))) rfl
theorem l1_X12_124 : L1_ RX12 124 yX12_stands := tb_in (qt_6 (List.mem_of_getElem? (i := 50) (by decide +kernel))) rfl
theorem l1_X12_130 : L1_ RX12 130 yX12_isNote := tb_in (qt_6 (List.mem_of_getElem? (i := 67) (by decide +kernel))) rfl
theorem l1_X12_133 : L1_ RX12 133 yX12_noteOf := tb_in (qt_6 (List.mem_of_getElem? (i := 83) (by decide +kernel))) rfl
theorem l1_X12_136 : L1_ RX12 136 yX12_wide := tb_in (qt_6 (List.mem_of_getElem? (i := 87) (by decide +kernel))) rfl
theorem l1_X12_140 : L1_ RX12 140 yX12_soundOf := tb_in (qt_6 (List.mem_of_getElem? (i := 91) (by decide +kernel))) rfl
theorem l1_X12_143 : L1_ RX12 143 yX12_standsAt := tb_in (qt_6 (List.mem_of_getElem? (i := 79) (by decide +kernel))) rfl
theorem l1_X12_146 : L1_ RX12 146 yX12_cuts := tb_in (qt_6 (List.mem_of_getElem? (i := 75) (by decide +kernel))) rfl
theorem l1_X12_150 : L1_ RX12 150 yX12_next := tb_in (qt_6 (List.mem_of_getElem? (i := 95) (by decide +kernel))) rfl
theorem l1_X12_153 : L1_ RX12 153 yX12_lengthOf := tb_in (qt_6 (List.mem_of_getElem? (i := 103) (by decide +kernel))) rfl
theorem l1_X12_156 : L1_ RX12 156 yX12_notesOf := tb_in (qt_6 (List.mem_of_getElem? (i := 107) (by decide +kernel))) rfl
theorem l1_X12_160 : L1_ RX12 160 yX12_listed := tb_in (qt_6 (List.mem_of_getElem? (i := 116) (by decide +kernel))) rfl
theorem l1_X12_173 : L1_ RX12 173 yX12_sign := tb_in (qt_6 (List.mem_of_getElem? (i := 136) (by decide +kernel))) rfl
theorem l1_X12_178 : L1_ RX12 178 yX12_takes := tb_in (qt_6 (List.mem_of_getElem? (i := 132) (by decide +kernel))) rfl
theorem l1_X12_181 : L1_ RX12 181 yX12_readsNumber := tb_in (qt_6 (List.mem_of_getElem? (i := 140) (by decide +kernel))) rfl
theorem l1_X12_184 : L1_ RX12 184 yX12_readsWhat := tb_in (qt_6 (List.mem_of_getElem? (i := 128) (by decide +kernel))) rfl
theorem l1_X12_188 : L1_ RX12 188 yX12_readsPlace := tb_in (qt_6 (List.mem_of_getElem? (i := 145) (by decide +kernel))) rfl
theorem l1_X12_191 : L1_ RX12 191 yX12_faultOf := tb_in (qt_6 (List.mem_of_getElem? (i := 124) (by decide +kernel))) rfl
theorem l1_X12_197 : L1_ RX12 197 yX12_fitsPlace := tb_in (qt_6 (List.mem_of_getElem? (i := 161) (by decide +kernel))) rfl
theorem l1_X12_200 : L1_ RX12 200 yX12_hears := tb_in (qt_6 (List.mem_of_getElem? (i := 157) (by decide +kernel))) rfl
theorem l1_X12_203 : L1_ RX12 203 yX12_adds := tb_in (qt_6 (List.mem_of_getElem? (i := 177) (by decide +kernel))) rfl
theorem l1_X12_212 : L1_ RX12 212 yX12_isHeard := tb_in (qt_6 (List.mem_of_getElem? (i := 173) (by decide +kernel))) rfl
theorem l1_X12_215 : L1_ RX12 215 yX12_findDeep := tb_in (qt_6 (List.mem_of_getElem? (i := 169) (by decide +kernel))) rfl
theorem l1_X12_218 : L1_ RX12 218 yX12_placeIn := tb_in (qt_6 (List.mem_of_getElem? (i := 216) (by decide +kernel))) rfl
theorem l1_X12_221 : L1_ RX12 221 yX12_wrongParts := tb_in (qt_6 (List.mem_of_getElem? (i := 185) (by decide +kernel))) rfl
theorem l1_X12_224 : L1_ RX12 224 yX12_partsOf := tb_in (qt_6 (List.mem_of_getElem? (i := 189) (by decide +kernel))) rfl
theorem l1_X12_227 : L1_ RX12 227 yX12_fitsOrder := tb_in (qt_6 (List.mem_of_getElem? (i := 213) (by decide +kernel))) rfl
theorem l1_X12_230 : L1_ RX12 230 yX12_isOf := tb_in (qt_6 (List.mem_of_getElem? (i := 205) (by decide +kernel))) rfl
theorem l1_X12_233 : L1_ RX12 233 yX12_fitsSaid := tb_in (qt_6 (List.mem_of_getElem? (i := 209) (by decide +kernel))) rfl
theorem l1_X12_238 : L1_ RX12 238 yX12_isVillage := tb_in (qt_6 (List.mem_of_getElem? (i := 197) (by decide +kernel))) rfl
theorem l1_X12_241 : L1_ RX12 241 yX12_findSet := tb_in (qt_6 (List.mem_of_getElem? (i := 201) (by decide +kernel))) rfl
theorem l1_X12_252 : L1_ RX12 252 yX12_tries := tb_in (qt_6 (List.mem_of_getElem? (i := 232) (by decide +kernel))) rfl
theorem l1_X12_256 : L1_ RX12 256 yX12_goesOn := tb_in (qt_6 (List.mem_of_getElem? (i := 228) (by decide +kernel))) rfl
theorem l1_X12_260 : L1_ RX12 260 yX12_noneFits := tb_in (qt_7 (List.mem_of_getElem? (i := 4) (by decide +kernel))) rfl
theorem l1_X12_266 : L1_ RX12 266 yX12_bits := tb_in (qt_7 (List.mem_of_getElem? (i := 14) (by decide +kernel))) rfl
theorem l1_X12_269 : L1_ RX12 269 yX12_word := tb_in (qt_7 (List.mem_of_getElem? (i := 33) (by decide +kernel))) rfl
theorem l1_X12_278 : L1_ RX12 278 yX12_findLaws := tb_in (qt_7 (List.mem_of_getElem? (i := 29) (by decide +kernel))) rfl
theorem l1_X12_281 : L1_ RX12 281 yX12_asItIs := tb_in (qt_7 (List.mem_of_getElem? (i := 25) (by decide +kernel))) rfl
theorem l1_X12_290 : L1_ RX12 290 yX12_deals := tb_in (qt_7 (List.mem_of_getElem? (i := 45) (by decide +kernel))) rfl
theorem l1_X12_295 : L1_ RX12 295 yX12_isAlike := tb_in (qt_7 (List.mem_of_getElem? (i := 66) (by decide +kernel))) rfl
theorem l1_X12_304 : L1_ RX12 304 yX12_wrongKept := tb_in (qt_7 (List.mem_of_getElem? (i := 107) (by decide +kernel))) rfl
theorem l2_X6_30 : L2_ RX6 30 yX11_isIn "TongueBook" := List.mem_filter.mpr ⟨qt_2 (List.mem_of_getElem? (i := 103) (by decide +kernel)), rfl⟩
theorem l2_X7_51 : L2_ RX7 51 yX11_isIn "TongueBook" := List.mem_filter.mpr ⟨qt_3 (List.mem_of_getElem? (i := 168) (by decide +kernel)), rfl⟩
theorem l2_X9_49 : L2_ RX9 49 yX11_isIn "TongueBook" := List.mem_filter.mpr ⟨qt_2 (List.mem_of_getElem? (i := 230) (by decide +kernel)), rfl⟩
theorem ac_ok : Cond.native arraycopyName ∈ TB_t ∧ Cond.static arraycopyName ∈ TB_t ∧ Cond.initialized "java/lang/System" ∈ TB_t := ⟨tb_in (qt_3 (List.mem_of_getElem? (i := 69) (by decide +kernel))) rfl, tb_in (qt_3 (List.mem_of_getElem? (i := 68) (by decide +kernel))) rfl, tb_in (qt_1 (List.mem_of_getElem? (i := 14) (by decide +kernel))) rfl⟩
theorem fp_0_4 : FP_ 0 4 .int := ⟨by decide, by decide +kernel⟩
theorem fp_0_6 : FP_ 0 6 .int := ⟨by decide, by decide +kernel⟩
theorem fp_0_7 : FP_ 0 7 .int := ⟨by decide, by decide +kernel⟩
theorem fp_0_9 : FP_ 0 9 .int := ⟨by decide, by decide +kernel⟩
theorem fp_0_11 : FP_ 0 11 .int := ⟨by decide, by decide +kernel⟩
theorem fp_0_14 : FP_ 0 14 .int := ⟨by decide, by decide +kernel⟩
theorem fp_1_1 : FP_ 1 1 .int := ⟨by decide, by decide +kernel⟩
theorem fp_1_2 : FP_ 1 2 .int := ⟨by decide, by decide +kernel⟩
theorem fp_1_3 : FP_ 1 3 .int := ⟨by decide, by decide +kernel⟩
theorem fp_1_4 : FP_ 1 4 .int := ⟨by decide, by decide +kernel⟩
theorem fp_1_5 : FP_ 1 5 .boolean := ⟨by decide, by decide +kernel⟩
theorem fp_1_6 : FP_ 1 6 .int := ⟨by decide, by decide +kernel⟩
theorem fp_2_3 : FP_ 2 3 .int := ⟨by decide, by decide +kernel⟩
theorem fp_2_4 : FP_ 2 4 .int := ⟨by decide, by decide +kernel⟩
theorem fp_2_5 : FP_ 2 5 .int := ⟨by decide, by decide +kernel⟩
theorem fp_2_8 : FP_ 2 8 .int := ⟨by decide, by decide +kernel⟩
theorem fp_2_9 : FP_ 2 9 .int := ⟨by decide, by decide +kernel⟩
theorem fp_3_1 : FP_ 3 1 .int := ⟨by decide, by decide +kernel⟩
theorem fp_3_3 : FP_ 3 3 .int := ⟨by decide, by decide +kernel⟩
theorem fp_4_2 : FP_ 4 2 .int := ⟨by decide, by decide +kernel⟩
theorem fp_5_0 : FP_ 5 0 .int := ⟨by decide, by decide +kernel⟩
theorem fp_5_1 : FP_ 5 1 .int := ⟨by decide, by decide +kernel⟩
theorem fp_6_2 : FP_ 6 2 .int := ⟨by decide, by decide +kernel⟩
theorem fp_6_3 : FP_ 6 3 .int := ⟨by decide, by decide +kernel⟩
theorem fp_7_0 : FP_ 7 0 .int := ⟨by decide, by decide +kernel⟩
theorem fp_7_1 : FP_ 7 1 .int := ⟨by decide, by decide +kernel⟩
theorem fp_7_2 : FP_ 7 2 .int := ⟨by decide, by decide +kernel⟩
theorem fp_7_3 : FP_ 7 3 .int := ⟨by decide, by decide +kernel⟩
theorem fp_7_4 : FP_ 7 4 .int := ⟨by decide, by decide +kernel⟩
theorem fp_8_0 : FP_ 8 0 .int := ⟨by decide, by decide +kernel⟩
theorem fp_8_1 : FP_ 8 1 .int := ⟨by decide, by decide +kernel⟩
theorem fp_8_2 : FP_ 8 2 .int := ⟨by decide, by decide +kernel⟩
theorem fp_9_0 : FP_ 9 0 .int := ⟨by decide, by decide +kernel⟩
theorem fp_9_2 : FP_ 9 2 .int := ⟨by decide, by decide +kernel⟩
theorem fp_9_3 : FP_ 9 3 .int := ⟨by decide, by decide +kernel⟩
theorem fp_10_1 : FP_ 10 1 .int := ⟨by decide, by decide +kernel⟩
theorem fp_11_2 : FP_ 11 2 .boolean := ⟨by decide, by decide +kernel⟩
theorem fp_12_8 : FP_ 12 8 .boolean := ⟨by decide, by decide +kernel⟩
theorem fp_12_9 : FP_ 12 9 .int := ⟨by decide, by decide +kernel⟩
theorem fp_12_10 : FP_ 12 10 .int := ⟨by decide, by decide +kernel⟩
theorem fp_12_14 : FP_ 12 14 .int := ⟨by decide, by decide +kernel⟩
theorem fp_12_15 : FP_ 12 15 .int := ⟨by decide, by decide +kernel⟩
theorem fp_12_16 : FP_ 12 16 .int := ⟨by decide, by decide +kernel⟩
theorem fp_12_20 : FP_ 12 20 .int := ⟨by decide, by decide +kernel⟩
theorem fp_12_21 : FP_ 12 21 .int := ⟨by decide, by decide +kernel⟩
theorem fp_12_22 : FP_ 12 22 .int := ⟨by decide, by decide +kernel⟩
theorem fp_12_24 : FP_ 12 24 .int := ⟨by decide, by decide +kernel⟩
theorem fp_12_25 : FP_ 12 25 .int := ⟨by decide, by decide +kernel⟩
theorem fp_12_29 : FP_ 12 29 .int := ⟨by decide, by decide +kernel⟩
theorem fp_12_30 : FP_ 12 30 .int := ⟨by decide, by decide +kernel⟩
theorem fp_12_31 : FP_ 12 31 .int := ⟨by decide, by decide +kernel⟩
theorem fp_12_32 : FP_ 12 32 .int := ⟨by decide, by decide +kernel⟩
theorem tc_0 : tC_ 0 "TongueBook$Card" := fun _ => rfl
theorem tc_1 : tC_ 1 "TongueBook$Note" := fun _ => rfl
theorem tc_2 : tC_ 2 "TongueBook$Rule" := fun _ => rfl
theorem tc_3 : tC_ 3 "TongueBook$Saying" := fun _ => rfl
theorem tc_4 : tC_ 4 "TongueBook$Sounds" := fun _ => rfl
theorem tc_5 : tC_ 5 "TongueBook$Shelf" := fun _ => rfl
theorem ul_0_0 : u_lay RX0 TX0 0 ∈ TB_t := tb_in (qt_1 (List.mem_of_getElem? (i := 228) (by decide +kernel))) rfl
theorem ul_0_1 : u_lay RX0 TX0 1 ∈ TB_t := tb_in (qt_1 (List.mem_of_getElem? (i := 230) (by decide +kernel))) rfl
theorem ul_0_2 : u_lay RX0 TX0 2 ∈ TB_t := tb_in (qt_1 (List.mem_of_getElem? (i := 232) (by decide +kernel))) rfl
theorem ul_0_3 : u_lay RX0 TX0 3 ∈ TB_t := tb_in (qt_1 (List.mem_of_getElem? (i := 234) (by decide +kernel))) rfl
theorem ul_0_4 : u_lay RX0 TX0 4 ∈ TB_t := tb_in (qt_1 (List.mem_of_getElem? (i := 236) (by decide +kernel))) rfl
theorem ul_0_5 : u_lay RX0 TX0 5 ∈ TB_t := tb_in (qt_1 (List.mem_of_getElem? (i := 238) (by decide +kernel))) rfl
theorem ul_0_6 : u_lay RX0 TX0 6 ∈ TB_t := tb_in (qt_2 (List.mem_of_getElem? (i := 0) (by decide +kernel))) rfl
theorem ul_0_7 : u_lay RX0 TX0 7 ∈ TB_t := tb_in (qt_2 (List.mem_of_getElem? (i := 2) (by decide +kernel))) rfl
theorem ul_0_8 : u_lay RX0 TX0 8 ∈ TB_t := tb_in (qt_2 (List.mem_of_getElem? (i := 4) (by decide +kernel))) rfl
theorem ul_0_9 : u_lay RX0 TX0 9 ∈ TB_t := tb_in (qt_2 (List.mem_of_getElem? (i := 6) (by decide +kernel))) rfl
theorem ul_0_10 : u_lay RX0 TX0 10 ∈ TB_t := tb_in (qt_2 (List.mem_of_getElem? (i := 8) (by decide +kernel))) rfl
theorem ul_0_11 : u_lay RX0 TX0 11 ∈ TB_t := tb_in (qt_2 (List.mem_of_getElem? (i := 10) (by decide +kernel))) rfl
theorem ul_0_12 : u_lay RX0 TX0 12 ∈ TB_t := tb_in (qt_2 (List.mem_of_getElem? (i := 12) (by decide +kernel))) rfl
theorem ul_0_13 : u_lay RX0 TX0 13 ∈ TB_t := tb_in (qt_2 (List.mem_of_getElem? (i := 14) (by decide +kernel))) rfl
theorem ul_0_14 : u_lay RX0 TX0 14 ∈ TB_t := tb_in (qt_2 (List.mem_of_getElem? (i := 16) (by decide +kernel))) rfl
theorem ck_0 : CK_ 0 := by
  refine ⟨fun w hw => ?_, ⟨tyX0, tyX0_ok⟩, nmX0⟩
  obtain ⟨k, hk, rfl⟩ := List.mem_map.mp hw
  have hk : k < 15 := List.mem_range.mp hk
  match k, hk with
  | 0, _ => exact ul_0_0
  | 1, _ => exact ul_0_1
  | 2, _ => exact ul_0_2
  | 3, _ => exact ul_0_3
  | 4, _ => exact ul_0_4
  | 5, _ => exact ul_0_5
  | 6, _ => exact ul_0_6
  | 7, _ => exact ul_0_7
  | 8, _ => exact ul_0_8
  | 9, _ => exact ul_0_9
  | 10, _ => exact ul_0_10
  | 11, _ => exact ul_0_11
  | 12, _ => exact ul_0_12
  | 13, _ => exact ul_0_13
  | 14, _ => exact ul_0_14
  | k + 15, h => exact absurd h (by omega)
theorem ul_1_0 : u_lay RX1 TX1 0 ∈ TB_t := tb_in (qt_1 (List.mem_of_getElem? (i := 99) (by decide +kernel))) rfl
theorem ul_1_1 : u_lay RX1 TX1 1 ∈ TB_t := tb_in (qt_1 (List.mem_of_getElem? (i := 101) (by decide +kernel))) rfl
theorem ul_1_2 : u_lay RX1 TX1 2 ∈ TB_t := tb_in (qt_1 (List.mem_of_getElem? (i := 103) (by decide +kernel))) rfl
theorem ul_1_3 : u_lay RX1 TX1 3 ∈ TB_t := tb_in (qt_1 (List.mem_of_getElem? (i := 105) (by decide +kernel))) rfl
theorem ul_1_4 : u_lay RX1 TX1 4 ∈ TB_t := tb_in (qt_1 (List.mem_of_getElem? (i := 107) (by decide +kernel))) rfl
theorem ul_1_5 : u_lay RX1 TX1 5 ∈ TB_t := tb_in (qt_1 (List.mem_of_getElem? (i := 109) (by decide +kernel))) rfl
theorem ul_1_6 : u_lay RX1 TX1 6 ∈ TB_t := tb_in (qt_1 (List.mem_of_getElem? (i := 111) (by decide +kernel))) rfl
theorem ck_1 : CK_ 1 := by
  refine ⟨fun w hw => ?_, ⟨tyX1, tyX1_ok⟩, nmX1⟩
  obtain ⟨k, hk, rfl⟩ := List.mem_map.mp hw
  have hk : k < 7 := List.mem_range.mp hk
  match k, hk with
  | 0, _ => exact ul_1_0
  | 1, _ => exact ul_1_1
  | 2, _ => exact ul_1_2
  | 3, _ => exact ul_1_3
  | 4, _ => exact ul_1_4
  | 5, _ => exact ul_1_5
  | 6, _ => exact ul_1_6
  | k + 7, h => exact absurd h (by omega)
theorem ul_2_0 : u_lay RX2 TX2 0 ∈ TB_t := tb_in (qt_2 (List.mem_of_getElem? (i := 44) (by decide +kernel))) rfl
theorem ul_2_1 : u_lay RX2 TX2 1 ∈ TB_t := tb_in (qt_2 (List.mem_of_getElem? (i := 46) (by decide +kernel))) rfl
theorem ul_2_2 : u_lay RX2 TX2 2 ∈ TB_t := tb_in (qt_2 (List.mem_of_getElem? (i := 48) (by decide +kernel))) rfl
theorem ul_2_3 : u_lay RX2 TX2 3 ∈ TB_t := tb_in (qt_2 (List.mem_of_getElem? (i := 50) (by decide +kernel))) rfl
theorem ul_2_4 : u_lay RX2 TX2 4 ∈ TB_t := tb_in (qt_2 (List.mem_of_getElem? (i := 52) (by decide +kernel))) rfl
theorem ul_2_5 : u_lay RX2 TX2 5 ∈ TB_t := tb_in (qt_2 (List.mem_of_getElem? (i := 54) (by decide +kernel))) rfl
theorem ul_2_6 : u_lay RX2 TX2 6 ∈ TB_t := tb_in (qt_2 (List.mem_of_getElem? (i := 56) (by decide +kernel))) rfl
theorem ul_2_7 : u_lay RX2 TX2 7 ∈ TB_t := tb_in (qt_2 (List.mem_of_getElem? (i := 58) (by decide +kernel))) rfl
theorem ul_2_8 : u_lay RX2 TX2 8 ∈ TB_t := tb_in (qt_2 (List.mem_of_getElem? (i := 60) (by decide +kernel))) rfl
theorem ul_2_9 : u_lay RX2 TX2 9 ∈ TB_t := tb_in (qt_2 (List.mem_of_getElem? (i := 62) (by decide +kernel))) rfl
theorem ck_2 : CK_ 2 := by
  refine ⟨fun w hw => ?_, ⟨tyX2, tyX2_ok⟩, nmX2⟩
  obtain ⟨k, hk, rfl⟩ := List.mem_map.mp hw
  have hk : k < 10 := List.mem_range.mp hk
  match k, hk with
  | 0, _ => exact ul_2_0
  | 1, _ => exact ul_2_1
  | 2, _ => exact ul_2_2
  | 3, _ => exact ul_2_3
  | 4, _ => exact ul_2_4
  | 5, _ => exact ul_2_5
  | 6, _ => exact ul_2_6
  | 7, _ => exact ul_2_7
  | 8, _ => exact ul_2_8
  | 9, _ => exact ul_2_9
  | k + 10, h => exact absurd h (by omega)
theorem ul_3_0 : u_lay RX3 TX3 0 ∈ TB_t := tb_in (qt_2 (List.mem_of_getElem? (i := 79) (by decide +kernel))) rfl
theorem ul_3_1 : u_lay RX3 TX3 1 ∈ TB_t := tb_in (qt_2 (List.mem_of_getElem? (i := 81) (by decide +kernel))) rfl
theorem ul_3_2 : u_lay RX3 TX3 2 ∈ TB_t := tb_in (qt_2 (List.mem_of_getElem? (i := 83) (by decide +kernel))) rfl
theorem ul_3_3 : u_lay RX3 TX3 3 ∈ TB_t := tb_in (qt_2 (List.mem_of_getElem? (i := 85) (by decide +kernel))) rfl
theorem ul_3_4 : u_lay RX3 TX3 4 ∈ TB_t := tb_in (qt_2 (List.mem_of_getElem? (i := 87) (by decide +kernel))) rfl
theorem ck_3 : CK_ 3 := by
  refine ⟨fun w hw => ?_, ⟨tyX3, tyX3_ok⟩, nmX3⟩
  obtain ⟨k, hk, rfl⟩ := List.mem_map.mp hw
  have hk : k < 5 := List.mem_range.mp hk
  match k, hk with
  | 0, _ => exact ul_3_0
  | 1, _ => exact ul_3_1
  | 2, _ => exact ul_3_2
  | 3, _ => exact ul_3_3
  | 4, _ => exact ul_3_4
  | k + 5, h => exact absurd h (by omega)
theorem ul_4_0 : u_lay RX4 TX4 0 ∈ TB_t := tb_in (qt_2 (List.mem_of_getElem? (i := 137) (by decide +kernel))) rfl
theorem ul_4_1 : u_lay RX4 TX4 1 ∈ TB_t := tb_in (qt_2 (List.mem_of_getElem? (i := 139) (by decide +kernel))) rfl
theorem ul_4_2 : u_lay RX4 TX4 2 ∈ TB_t := tb_in (qt_2 (List.mem_of_getElem? (i := 141) (by decide +kernel))) rfl
theorem ul_4_3 : u_lay RX4 TX4 3 ∈ TB_t := tb_in (qt_2 (List.mem_of_getElem? (i := 143) (by decide +kernel))) rfl
theorem ck_4 : CK_ 4 := by
  refine ⟨fun w hw => ?_, ⟨tyX4, tyX4_ok⟩, nmX4⟩
  obtain ⟨k, hk, rfl⟩ := List.mem_map.mp hw
  have hk : k < 4 := List.mem_range.mp hk
  match k, hk with
  | 0, _ => exact ul_4_0
  | 1, _ => exact ul_4_1
  | 2, _ => exact ul_4_2
  | 3, _ => exact ul_4_3
  | k + 4, h => exact absurd h (by omega)
theorem ul_5_0 : u_lay RX5 TX5 0 ∈ TB_t := tb_in (qt_1 (List.mem_of_getElem? (i := 127) (by decide +kernel))) rfl
theorem ul_5_1 : u_lay RX5 TX5 1 ∈ TB_t := tb_in (qt_1 (List.mem_of_getElem? (i := 129) (by decide +kernel))) rfl
theorem ul_5_2 : u_lay RX5 TX5 2 ∈ TB_t := tb_in (qt_1 (List.mem_of_getElem? (i := 131) (by decide +kernel))) rfl
theorem ul_5_3 : u_lay RX5 TX5 3 ∈ TB_t := tb_in (qt_1 (List.mem_of_getElem? (i := 133) (by decide +kernel))) rfl
theorem ck_5 : CK_ 5 := by
  refine ⟨fun w hw => ?_, ⟨tyX5, tyX5_ok⟩, nmX5⟩
  obtain ⟨k, hk, rfl⟩ := List.mem_map.mp hw
  have hk : k < 4 := List.mem_range.mp hk
  match k, hk with
  | 0, _ => exact ul_5_0
  | 1, _ => exact ul_5_1
  | 2, _ => exact ul_5_2
  | 3, _ => exact ul_5_3
  | k + 4, h => exact absurd h (by omega)
theorem ul_6_0 : u_lay RX6 TX6 0 ∈ TB_t := tb_in (qt_2 (List.mem_of_getElem? (i := 116) (by decide +kernel))) rfl
theorem ul_6_1 : u_lay RX6 TX6 1 ∈ TB_t := tb_in (qt_2 (List.mem_of_getElem? (i := 118) (by decide +kernel))) rfl
theorem ul_6_2 : u_lay RX6 TX6 2 ∈ TB_t := tb_in (qt_2 (List.mem_of_getElem? (i := 120) (by decide +kernel))) rfl
theorem ul_6_3 : u_lay RX6 TX6 3 ∈ TB_t := tb_in (qt_2 (List.mem_of_getElem? (i := 122) (by decide +kernel))) rfl
theorem ck_6 : CK_ 6 := by
  refine ⟨fun w hw => ?_, ⟨tyX6, tyX6_ok⟩, nmX6⟩
  obtain ⟨k, hk, rfl⟩ := List.mem_map.mp hw
  have hk : k < 4 := List.mem_range.mp hk
  match k, hk with
  | 0, _ => exact ul_6_0
  | 1, _ => exact ul_6_1
  | 2, _ => exact ul_6_2
  | 3, _ => exact ul_6_3
  | k + 4, h => exact absurd h (by omega)
theorem ul_7_0 : u_lay RX7 TX7 0 ∈ TB_t := tb_in (qt_1 (List.mem_of_getElem? (i := 151) (by decide +kernel))) rfl
theorem ul_7_1 : u_lay RX7 TX7 1 ∈ TB_t := tb_in (qt_1 (List.mem_of_getElem? (i := 153) (by decide +kernel))) rfl
theorem ul_7_2 : u_lay RX7 TX7 2 ∈ TB_t := tb_in (qt_1 (List.mem_of_getElem? (i := 155) (by decide +kernel))) rfl
theorem ul_7_3 : u_lay RX7 TX7 3 ∈ TB_t := tb_in (qt_1 (List.mem_of_getElem? (i := 157) (by decide +kernel))) rfl
theorem ul_7_4 : u_lay RX7 TX7 4 ∈ TB_t := tb_in (qt_1 (List.mem_of_getElem? (i := 159) (by decide +kernel))) rfl
theorem ck_7 : CK_ 7 := by
  refine ⟨fun w hw => ?_, ⟨tyX7, tyX7_ok⟩, nmX7⟩
  obtain ⟨k, hk, rfl⟩ := List.mem_map.mp hw
  have hk : k < 5 := List.mem_range.mp hk
  match k, hk with
  | 0, _ => exact ul_7_0
  | 1, _ => exact ul_7_1
  | 2, _ => exact ul_7_2
  | 3, _ => exact ul_7_3
  | 4, _ => exact ul_7_4
  | k + 5, h => exact absurd h (by omega)
theorem ul_8_0 : u_lay RX8 TX8 0 ∈ TB_t := tb_in (qt_1 (List.mem_of_getElem? (i := 176) (by decide +kernel))) rfl
theorem ul_8_1 : u_lay RX8 TX8 1 ∈ TB_t := tb_in (qt_1 (List.mem_of_getElem? (i := 178) (by decide +kernel))) rfl
theorem ul_8_2 : u_lay RX8 TX8 2 ∈ TB_t := tb_in (qt_1 (List.mem_of_getElem? (i := 180) (by decide +kernel))) rfl
theorem ck_8 : CK_ 8 := by
  refine ⟨fun w hw => ?_, ⟨tyX8, tyX8_ok⟩, nmX8⟩
  obtain ⟨k, hk, rfl⟩ := List.mem_map.mp hw
  have hk : k < 3 := List.mem_range.mp hk
  match k, hk with
  | 0, _ => exact ul_8_0
  | 1, _ => exact ul_8_1
  | 2, _ => exact ul_8_2
  | k + 3, h => exact absurd h (by omega)
theorem ul_9_0 : u_lay RX9 TX9 0 ∈ TB_t := tb_in (qt_2 (List.mem_of_getElem? (i := 171) (by decide +kernel))) rfl
theorem ul_9_1 : u_lay RX9 TX9 1 ∈ TB_t := tb_in (qt_2 (List.mem_of_getElem? (i := 173) (by decide +kernel))) rfl
theorem ul_9_2 : u_lay RX9 TX9 2 ∈ TB_t := tb_in (qt_2 (List.mem_of_getElem? (i := 175) (by decide +kernel))) rfl
theorem ul_9_3 : u_lay RX9 TX9 3 ∈ TB_t := tb_in (qt_2 (List.mem_of_getElem? (i := 177) (by decide +kernel))) rfl
theorem ul_9_4 : u_lay RX9 TX9 4 ∈ TB_t := tb_in (qt_2 (List.mem_of_getElem? (i := 179) (by decide +kernel))) rfl
theorem ck_9 : CK_ 9 := by
  refine ⟨fun w hw => ?_, ⟨tyX9, tyX9_ok⟩, nmX9⟩
  obtain ⟨k, hk, rfl⟩ := List.mem_map.mp hw
  have hk : k < 5 := List.mem_range.mp hk
  match k, hk with
  | 0, _ => exact ul_9_0
  | 1, _ => exact ul_9_1
  | 2, _ => exact ul_9_2
  | 3, _ => exact ul_9_3
  | 4, _ => exact ul_9_4
  | k + 5, h => exact absurd h (by omega)
theorem ul_10_0 : u_lay RX10 TX10 0 ∈ TB_t := tb_in (qt_1 (List.mem_of_getElem? (i := 74) (by decide +kernel))) rfl
theorem ul_10_1 : u_lay RX10 TX10 1 ∈ TB_t := tb_in (qt_1 (List.mem_of_getElem? (i := 76) (by decide +kernel))) rfl
theorem ck_10 : CK_ 10 := by
  refine ⟨fun w hw => ?_, ⟨tyX10, tyX10_ok⟩, nmX10⟩
  obtain ⟨k, hk, rfl⟩ := List.mem_map.mp hw
  have hk : k < 2 := List.mem_range.mp hk
  match k, hk with
  | 0, _ => exact ul_10_0
  | 1, _ => exact ul_10_1
  | k + 2, h => exact absurd h (by omega)
theorem ul_11_0 : u_lay RX11 TX11 0 ∈ TB_t := tb_in (qt_2 (List.mem_of_getElem? (i := 191) (by decide +kernel))) rfl
theorem ul_11_1 : u_lay RX11 TX11 1 ∈ TB_t := tb_in (qt_2 (List.mem_of_getElem? (i := 193) (by decide +kernel))) rfl
theorem ul_11_2 : u_lay RX11 TX11 2 ∈ TB_t := tb_in (qt_2 (List.mem_of_getElem? (i := 195) (by decide +kernel))) rfl
theorem ul_11_3 : u_lay RX11 TX11 3 ∈ TB_t := tb_in (qt_2 (List.mem_of_getElem? (i := 197) (by decide +kernel))) rfl
theorem ul_11_4 : u_lay RX11 TX11 4 ∈ TB_t := tb_in (qt_2 (List.mem_of_getElem? (i := 199) (by decide +kernel))) rfl
theorem ul_11_5 : u_lay RX11 TX11 5 ∈ TB_t := tb_in (qt_2 (List.mem_of_getElem? (i := 201) (by decide +kernel))) rfl
theorem ul_11_6 : u_lay RX11 TX11 6 ∈ TB_t := tb_in (qt_2 (List.mem_of_getElem? (i := 203) (by decide +kernel))) rfl
theorem ul_11_7 : u_lay RX11 TX11 7 ∈ TB_t := tb_in (qt_2 (List.mem_of_getElem? (i := 205) (by decide +kernel))) rfl
theorem ul_11_8 : u_lay RX11 TX11 8 ∈ TB_t := tb_in (qt_2 (List.mem_of_getElem? (i := 207) (by decide +kernel))) rfl
theorem ck_11 : CK_ 11 := by
  refine ⟨fun w hw => ?_, ⟨tyX11, tyX11_ok⟩, nmX11⟩
  obtain ⟨k, hk, rfl⟩ := List.mem_map.mp hw
  have hk : k < 9 := List.mem_range.mp hk
  match k, hk with
  | 0, _ => exact ul_11_0
  | 1, _ => exact ul_11_1
  | 2, _ => exact ul_11_2
  | 3, _ => exact ul_11_3
  | 4, _ => exact ul_11_4
  | 5, _ => exact ul_11_5
  | 6, _ => exact ul_11_6
  | 7, _ => exact ul_11_7
  | 8, _ => exact ul_11_8
  | k + 9, h => exact absurd h (by omega)
theorem ul_12_0 : u_lay RX12 TX12 0 ∈ TB_t := tb_in (qt_5 (List.mem_of_getElem? (i := 149) (by decide +kernel))) rfl
theorem ul_12_1 : u_lay RX12 TX12 1 ∈ TB_t := tb_in (qt_5 (List.mem_of_getElem? (i := 151) (by decide +kernel))) rfl
theorem ul_12_2 : u_lay RX12 TX12 2 ∈ TB_t := tb_in (qt_5 (List.mem_of_getElem? (i := 153) (by decide +kernel))) rfl
theorem ul_12_3 : u_lay RX12 TX12 3 ∈ TB_t := tb_in (qt_5 (List.mem_of_getElem? (i := 155) (by decide +kernel))) rfl
theorem ul_12_4 : u_lay RX12 TX12 4 ∈ TB_t := tb_in (qt_5 (List.mem_of_getElem? (i := 157) (by decide +kernel))) rfl
theorem ul_12_5 : u_lay RX12 TX12 5 ∈ TB_t := tb_in (qt_5 (List.mem_of_getElem? (i := 159) (by decide +kernel))) rfl
theorem ul_12_6 : u_lay RX12 TX12 6 ∈ TB_t := tb_in (qt_5 (List.mem_of_getElem? (i := 161) (by decide +kernel))) rfl
theorem ul_12_7 : u_lay RX12 TX12 7 ∈ TB_t := tb_in (qt_5 (List.mem_of_getElem? (i := 163) (by decide +kernel))) rfl
theorem ul_12_8 : u_lay RX12 TX12 8 ∈ TB_t := tb_in (qt_5 (List.mem_of_getElem? (i := 165) (by decide +kernel))) rfl
theorem ul_12_9 : u_lay RX12 TX12 9 ∈ TB_t := tb_in (qt_5 (List.mem_of_getElem? (i := 167) (by decide +kernel))) rfl
theorem ul_12_10 : u_lay RX12 TX12 10 ∈ TB_t := tb_in (qt_5 (List.mem_of_getElem? (i := 169) (by decide +kernel))) rfl
theorem ul_12_11 : u_lay RX12 TX12 11 ∈ TB_t := tb_in (qt_5 (List.mem_of_getElem? (i := 171) (by decide +kernel))) rfl
theorem ul_12_12 : u_lay RX12 TX12 12 ∈ TB_t := tb_in (qt_5 (List.mem_of_getElem? (i := 173) (by decide +kernel))) rfl
theorem ul_12_13 : u_lay RX12 TX12 13 ∈ TB_t := tb_in (qt_5 (List.mem_of_getElem? (i := 175) (by decide +kernel))) rfl
theorem ul_12_14 : u_lay RX12 TX12 14 ∈ TB_t := tb_in (qt_5 (List.mem_of_getElem? (i := 177) (by decide +kernel))) rfl
theorem ul_12_15 : u_lay RX12 TX12 15 ∈ TB_t := tb_in (qt_5 (List.mem_of_getElem? (i := 179) (by decide +kernel))) rfl
theorem ul_12_16 : u_lay RX12 TX12 16 ∈ TB_t := tb_in (qt_5 (List.mem_of_getElem? (i := 181) (by decide +kernel))) rfl
theorem ul_12_17 : u_lay RX12 TX12 17 ∈ TB_t := tb_in (qt_5 (List.mem_of_getElem? (i := 183) (by decide +kernel))) rfl
theorem ul_12_18 : u_lay RX12 TX12 18 ∈ TB_t := tb_in (qt_5 (List.mem_of_getElem? (i := 185) (by decide +kernel))) rfl
theorem ul_12_19 : u_lay RX12 TX12 19 ∈ TB_t := tb_in (qt_5 (List.mem_of_getElem? (i := 187) (by decide +kernel))) rfl
theorem ul_12_20 : u_lay RX12 TX12 20 ∈ TB_t := tb_in (qt_5 (List.mem_of_getElem? (i := 189) (by decide +kernel))) rfl
theorem ul_12_21 : u_lay RX12 TX12 21 ∈ TB_t := tb_in (qt_5 (List.mem_of_getElem? (i := 191) (by decide +kernel))) rfl
theorem ul_12_22 : u_lay RX12 TX12 22 ∈ TB_t := tb_in (qt_5 (List.mem_of_getElem? (i := 193) (by decide +kernel))) rfl
theorem ul_12_23 : u_lay RX12 TX12 23 ∈ TB_t := tb_in (qt_5 (List.mem_of_getElem? (i := 195) (by decide +kernel))) rfl
theorem ul_12_24 : u_lay RX12 TX12 24 ∈ TB_t := tb_in (qt_5 (List.mem_of_getElem? (i := 197) (by decide +kernel))) rfl
theorem ul_12_25 : u_lay RX12 TX12 25 ∈ TB_t := tb_in (qt_5 (List.mem_of_getElem? (i := 199) (by decide +kernel))) rfl
theorem ul_12_26 : u_lay RX12 TX12 26 ∈ TB_t := tb_in (qt_5 (List.mem_of_getElem? (i := 201) (by decide +kernel))) rfl
theorem ul_12_27 : u_lay RX12 TX12 27 ∈ TB_t := tb_in (qt_5 (List.mem_of_getElem? (i := 203) (by decide +kernel))) rfl
theorem ul_12_28 : u_lay RX12 TX12 28 ∈ TB_t := tb_in (qt_5 (List.mem_of_getElem? (i := 205) (by decide +kernel))) rfl
theorem ul_12_29 : u_lay RX12 TX12 29 ∈ TB_t := tb_in (qt_5 (List.mem_of_getElem? (i := 207) (by decide +kernel))) rfl
theorem ul_12_30 : u_lay RX12 TX12 30 ∈ TB_t := tb_in (qt_5 (List.mem_of_getElem? (i := 209) (by decide +kernel))) rfl
theorem ul_12_31 : u_lay RX12 TX12 31 ∈ TB_t := tb_in (qt_5 (List.mem_of_getElem? (i := 211) (by decide +kernel))) rfl
theorem ul_12_32 : u_lay RX12 TX12 32 ∈ TB_t := tb_in (qt_5 (List.mem_of_getElem? (i := 213) (by decide +kernel))) rfl
theorem ck_12 : CK_ 12 := by
  refine ⟨fun w hw => ?_, ⟨tyX12, tyX12_ok⟩, nmX12⟩
  obtain ⟨k, hk, rfl⟩ := List.mem_map.mp hw
  have hk : k < 33 := List.mem_range.mp hk
  match k, hk with
  | 0, _ => exact ul_12_0
  | 1, _ => exact ul_12_1
  | 2, _ => exact ul_12_2
  | 3, _ => exact ul_12_3
  | 4, _ => exact ul_12_4
  | 5, _ => exact ul_12_5
  | 6, _ => exact ul_12_6
  | 7, _ => exact ul_12_7
  | 8, _ => exact ul_12_8
  | 9, _ => exact ul_12_9
  | 10, _ => exact ul_12_10
  | 11, _ => exact ul_12_11
  | 12, _ => exact ul_12_12
  | 13, _ => exact ul_12_13
  | 14, _ => exact ul_12_14
  | 15, _ => exact ul_12_15
  | 16, _ => exact ul_12_16
  | 17, _ => exact ul_12_17
  | 18, _ => exact ul_12_18
  | 19, _ => exact ul_12_19
  | 20, _ => exact ul_12_20
  | 21, _ => exact ul_12_21
  | 22, _ => exact ul_12_22
  | 23, _ => exact ul_12_23
  | 24, _ => exact ul_12_24
  | 25, _ => exact ul_12_25
  | 26, _ => exact ul_12_26
  | 27, _ => exact ul_12_27
  | 28, _ => exact ul_12_28
  | 29, _ => exact ul_12_29
  | 30, _ => exact ul_12_30
  | 31, _ => exact ul_12_31
  | 32, _ => exact ul_12_32
  | k + 33, h => exact absurd h (by omega)
abbrev K_X10_take : KT_k := (cX10_take, 2, RX10, 1)
theorem yk_X10_take : Yk_ yX10_take (K_X10_take) none 1 := ⟨(show Cond.code yX10_take cX10_take 2 none ∈ TB_t from tb_in (qt_3 (List.mem_of_getElem? (i := 66) rfl)) rfl), tb_in (qt_1 (List.mem_of_getElem? (i := 4) (by decide +kernel))) rfl, by decide +kernel, by decide +kernel, (show 2 ≤ 21 by decide)⟩
theorem yi_X10_take : Yi_ yX10_take := ⟨tb_in (qt_3 (List.mem_of_getElem? (i := 64) (by decide +kernel))) rfl, tb_in (qt_3 (List.mem_of_getElem? (i := 65) (by decide +kernel))) rfl⟩
abbrev K_X1_take : KT_k := (cX1_take, 2, RX1, 2)
theorem yk_X1_take : Yk_ yX1_take (K_X1_take) none 1 := ⟨(show Cond.code yX1_take cX1_take 2 none ∈ TB_t from tb_in (qt_4 (List.mem_of_getElem? (i := 177) rfl)) rfl), tb_in (qt_1 (List.mem_of_getElem? (i := 3) (by decide +kernel))) rfl, by decide +kernel, by decide +kernel, (show 2 ≤ 21 by decide)⟩
theorem yi_X1_take : Yi_ yX1_take := ⟨tb_in (qt_4 (List.mem_of_getElem? (i := 175) (by decide +kernel))) rfl, tb_in (qt_4 (List.mem_of_getElem? (i := 176) (by decide +kernel))) rfl⟩
abbrev K_X5_take : KT_k := (cX5_take, 2, RX5, 2)
theorem yk_X5_take : Yk_ yX5_take (K_X5_take) none 1 := ⟨(show Cond.code yX5_take cX5_take 2 none ∈ TB_t from tb_in (qt_4 (List.mem_of_getElem? (i := 182) rfl)) rfl), tb_in (qt_1 (List.mem_of_getElem? (i := 5) (by decide +kernel))) rfl, by decide +kernel, by decide +kernel, (show 2 ≤ 21 by decide)⟩
theorem yi_X5_take : Yi_ yX5_take := ⟨tb_in (qt_4 (List.mem_of_getElem? (i := 180) (by decide +kernel))) rfl, tb_in (qt_4 (List.mem_of_getElem? (i := 181) (by decide +kernel))) rfl⟩
abbrev K_X7_take : KT_k := (cX7_take, 2, RX7, 1)
theorem yk_X7_take : Yk_ yX7_take (K_X7_take) none 1 := ⟨(show Cond.code yX7_take cX7_take 2 none ∈ TB_t from tb_in (qt_3 (List.mem_of_getElem? (i := 180) rfl)) rfl), tb_in (qt_1 (List.mem_of_getElem? (i := 6) (by decide +kernel))) rfl, by decide +kernel, by decide +kernel, (show 2 ≤ 21 by decide)⟩
theorem yi_X7_take : Yi_ yX7_take := ⟨tb_in (qt_3 (List.mem_of_getElem? (i := 178) (by decide +kernel))) rfl, tb_in (qt_3 (List.mem_of_getElem? (i := 179) (by decide +kernel))) rfl⟩
abbrev K_X8_take : KT_k := (cX8_take, 2, RX8, 1)
theorem yk_X8_take : Yk_ yX8_take (K_X8_take) none 1 := ⟨(show Cond.code yX8_take cX8_take 2 none ∈ TB_t from tb_in (qt_4 (List.mem_of_getElem? (i := 187) rfl)) rfl), tb_in (qt_1 (List.mem_of_getElem? (i := 7) (by decide +kernel))) rfl, by decide +kernel, by decide +kernel, (show 2 ≤ 21 by decide)⟩
theorem yi_X8_take : Yi_ yX8_take := ⟨tb_in (qt_4 (List.mem_of_getElem? (i := 185) (by decide +kernel))) rfl, tb_in (qt_4 (List.mem_of_getElem? (i := 186) (by decide +kernel))) rfl⟩
abbrev K_X0_take : KT_k := (cX0_take, 3, RX0, 3)
theorem yk_X0_take : Yk_ yX0_take (K_X0_take) none 1 := ⟨(show Cond.code yX0_take cX0_take 3 none ∈ TB_t from tb_in (qt_4 (List.mem_of_getElem? (i := 172) rfl)) rfl), tb_in (qt_1 (List.mem_of_getElem? (i := 2) (by decide +kernel))) rfl, by decide +kernel, by decide +kernel, (show 3 ≤ 21 by decide)⟩
theorem yi_X0_take : Yi_ yX0_take := ⟨tb_in (qt_4 (List.mem_of_getElem? (i := 170) (by decide +kernel))) rfl, tb_in (qt_4 (List.mem_of_getElem? (i := 171) (by decide +kernel))) rfl⟩
abbrev K_X0_keptCards : KT_k := (cX0_keptCards, 3, RX0, 1)
theorem yk_X0_keptCards : Yk_ yX0_keptCards (K_X0_keptCards) (some .int) 0 := ⟨(show Cond.code yX0_keptCards cX0_keptCards 3 (some .int) ∈ TB_t from tb_in (qt_4 (List.mem_of_getElem? (i := 200) rfl)) rfl), tb_in (qt_1 (List.mem_of_getElem? (i := 2) (by decide +kernel))) rfl, by decide +kernel, by decide +kernel, (show 3 ≤ 21 by decide)⟩
theorem yi_X0_keptCards : Yi_ yX0_keptCards := ⟨tb_in (qt_4 (List.mem_of_getElem? (i := 198) (by decide +kernel))) rfl, tb_in (qt_4 (List.mem_of_getElem? (i := 199) (by decide +kernel))) rfl⟩
abbrev K_X1_isCounted : KT_k := (cX1_isCounted, 1, RX1, 1)
theorem yk_X1_isCounted : Yk_ yX1_isCounted (K_X1_isCounted) (some .boolean) 0 := ⟨(show Cond.code yX1_isCounted cX1_isCounted 1 (some .boolean) ∈ TB_t from tb_in (qt_3 (List.mem_of_getElem? (i := 33) rfl)) rfl), tb_in (qt_1 (List.mem_of_getElem? (i := 3) (by decide +kernel))) rfl, by decide +kernel, by decide +kernel, (show 1 ≤ 21 by decide)⟩
theorem yi_X1_isCounted : Yi_ yX1_isCounted := ⟨tb_in (qt_3 (List.mem_of_getElem? (i := 31) (by decide +kernel))) rfl, tb_in (qt_3 (List.mem_of_getElem? (i := 32) (by decide +kernel))) rfl⟩
abbrev K_X0_isToldPair : KT_k := (cX0_isToldPair, 2, RX0, 2)
theorem yk_X0_isToldPair : Yk_ yX0_isToldPair (K_X0_isToldPair) (some .boolean) 2 := ⟨(show Cond.code yX0_isToldPair cX0_isToldPair 2 (some .boolean) ∈ TB_t from tb_in (qt_3 (List.mem_of_getElem? (i := 29) rfl)) rfl), tb_in (qt_1 (List.mem_of_getElem? (i := 2) (by decide +kernel))) rfl, by decide +kernel, by decide +kernel, (show 2 ≤ 21 by decide)⟩
theorem ys_X0_isToldPair : Ys_ yX0_isToldPair := tb_in (qt_3 (List.mem_of_getElem? (i := 28) (by decide +kernel))) rfl
abbrev K_X1_differsOnlyBy : KT_k := (cX1_differsOnlyBy, 9, RX1, 1)
theorem yk_X1_differsOnlyBy : Yk_ yX1_differsOnlyBy (K_X1_differsOnlyBy) (some .boolean) 3 := ⟨(show Cond.code yX1_differsOnlyBy cX1_differsOnlyBy 9 (some .boolean) ∈ TB_t from tb_in (qt_3 (List.mem_of_getElem? (i := 37) rfl)) rfl), tb_in (qt_1 (List.mem_of_getElem? (i := 3) (by decide +kernel))) rfl, by decide +kernel, by decide +kernel, (show 9 ≤ 21 by decide)⟩
theorem yi_X1_differsOnlyBy : Yi_ yX1_differsOnlyBy := ⟨tb_in (qt_3 (List.mem_of_getElem? (i := 35) (by decide +kernel))) rfl, tb_in (qt_3 (List.mem_of_getElem? (i := 36) (by decide +kernel))) rfl⟩
abbrev K_X0_areTwo : KT_k := (cX0_areTwo, 5, RX0, 3)
theorem yk_X0_areTwo : Yk_ yX0_areTwo (K_X0_areTwo) (some .boolean) 2 := ⟨(show Cond.code yX0_areTwo cX0_areTwo 5 (some .boolean) ∈ TB_t from tb_in (qt_3 (List.mem_of_getElem? (i := 26) rfl)) rfl), tb_in (qt_1 (List.mem_of_getElem? (i := 2) (by decide +kernel))) rfl, by decide +kernel, by decide +kernel, (show 5 ≤ 21 by decide)⟩
theorem yi_X0_areTwo : Yi_ yX0_areTwo := ⟨tb_in (qt_3 (List.mem_of_getElem? (i := 24) (by decide +kernel))) rfl, tb_in (qt_3 (List.mem_of_getElem? (i := 25) (by decide +kernel))) rfl⟩
abbrev K_X10_soundOrEdge : KT_k := (cX10_soundOrEdge, 2, RX10, 1)
theorem yk_X10_soundOrEdge : Yk_ yX10_soundOrEdge (K_X10_soundOrEdge) (some .int) 1 := ⟨(show Cond.code yX10_soundOrEdge cX10_soundOrEdge 2 (some .int) ∈ TB_t from tb_in (qt_3 (List.mem_of_getElem? (i := 49) rfl)) rfl), tb_in (qt_1 (List.mem_of_getElem? (i := 4) (by decide +kernel))) rfl, by decide +kernel, by decide +kernel, (show 2 ≤ 21 by decide)⟩
theorem yi_X10_soundOrEdge : Yi_ yX10_soundOrEdge := ⟨tb_in (qt_3 (List.mem_of_getElem? (i := 47) (by decide +kernel))) rfl, tb_in (qt_3 (List.mem_of_getElem? (i := 48) (by decide +kernel))) rfl⟩
abbrev K_X0_isSaidBetween : KT_k := (cX0_isSaidBetween, 7, RX0, 2)
theorem yk_X0_isSaidBetween : Yk_ yX0_isSaidBetween (K_X0_isSaidBetween) (some .boolean) 3 := ⟨(show Cond.code yX0_isSaidBetween cX0_isSaidBetween 7 (some .boolean) ∈ TB_t from tb_in (qt_3 (List.mem_of_getElem? (i := 53) rfl)) rfl), tb_in (qt_1 (List.mem_of_getElem? (i := 2) (by decide +kernel))) rfl, by decide +kernel, by decide +kernel, (show 7 ≤ 21 by decide)⟩
theorem yi_X0_isSaidBetween : Yi_ yX0_isSaidBetween := ⟨tb_in (qt_3 (List.mem_of_getElem? (i := 52) (by decide +kernel))) rfl, tb_in (qt_0 (List.mem_of_getElem? (i := 3) (by decide +kernel))) rfl⟩
abbrev K_X0_meetsFrom : KT_k := (cX0_meetsFrom, 5, RX0, 3)
theorem yk_X0_meetsFrom : Yk_ yX0_meetsFrom (K_X0_meetsFrom) (some .boolean) 3 := ⟨(show Cond.code yX0_meetsFrom cX0_meetsFrom 5 (some .boolean) ∈ TB_t from tb_in (qt_3 (List.mem_of_getElem? (i := 45) rfl)) rfl), tb_in (qt_1 (List.mem_of_getElem? (i := 2) (by decide +kernel))) rfl, by decide +kernel, by decide +kernel, (show 5 ≤ 21 by decide)⟩
theorem yi_X0_meetsFrom : Yi_ yX0_meetsFrom := ⟨tb_in (qt_3 (List.mem_of_getElem? (i := 44) (by decide +kernel))) rfl, tb_in (qt_0 (List.mem_of_getElem? (i := 2) (by decide +kernel))) rfl⟩
abbrev K_X0_doMeet : KT_k := (cX0_doMeet, 4, RX0, 4)
theorem yk_X0_doMeet : Yk_ yX0_doMeet (K_X0_doMeet) (some .boolean) 2 := ⟨(show Cond.code yX0_doMeet cX0_doMeet 4 (some .boolean) ∈ TB_t from tb_in (qt_3 (List.mem_of_getElem? (i := 41) rfl)) rfl), tb_in (qt_1 (List.mem_of_getElem? (i := 2) (by decide +kernel))) rfl, by decide +kernel, by decide +kernel, (show 4 ≤ 21 by decide)⟩
theorem yi_X0_doMeet : Yi_ yX0_doMeet := ⟨tb_in (qt_3 (List.mem_of_getElem? (i := 39) (by decide +kernel))) rfl, tb_in (qt_3 (List.mem_of_getElem? (i := 40) (by decide +kernel))) rfl⟩
abbrev K_X5_lengthTold : KT_k := (cX5_lengthTold, 2, RX5, 1)
theorem yk_X5_lengthTold : Yk_ yX5_lengthTold (K_X5_lengthTold) (some .int) 0 := ⟨(show Cond.code yX5_lengthTold cX5_lengthTold 2 (some .int) ∈ TB_t from tb_in (qt_3 (List.mem_of_getElem? (i := 82) rfl)) rfl), tb_in (qt_1 (List.mem_of_getElem? (i := 5) (by decide +kernel))) rfl, by decide +kernel, by decide +kernel, (show 2 ≤ 21 by decide)⟩
theorem yi_X5_lengthTold : Yi_ yX5_lengthTold := ⟨tb_in (qt_3 (List.mem_of_getElem? (i := 80) (by decide +kernel))) rfl, tb_in (qt_3 (List.mem_of_getElem? (i := 81) (by decide +kernel))) rfl⟩
abbrev K_X0_lengthsOf : KT_k := (cX0_lengthsOf, 4, RX0, 2)
theorem yk_X0_lengthsOf : Yk_ yX0_lengthsOf (K_X0_lengthsOf) (some .int) 1 := ⟨(show Cond.code yX0_lengthsOf cX0_lengthsOf 4 (some .int) ∈ TB_t from tb_in (qt_3 (List.mem_of_getElem? (i := 140) rfl)) rfl), tb_in (qt_1 (List.mem_of_getElem? (i := 2) (by decide +kernel))) rfl, by decide +kernel, by decide +kernel, (show 4 ≤ 21 by decide)⟩
theorem yi_X0_lengthsOf : Yi_ yX0_lengthsOf := ⟨tb_in (qt_3 (List.mem_of_getElem? (i := 138) (by decide +kernel))) rfl, tb_in (qt_3 (List.mem_of_getElem? (i := 139) (by decide +kernel))) rfl⟩
abbrev K_X0_leftBy : KT_k := (cX0_leftBy, 4, RX0, 1)
theorem yk_X0_leftBy : Yk_ yX0_leftBy (K_X0_leftBy) (some .int) 2 := ⟨(show Cond.code yX0_leftBy cX0_leftBy 4 (some .int) ∈ TB_t from tb_in (qt_4 (List.mem_of_getElem? (i := 28) rfl)) rfl), tb_in (qt_1 (List.mem_of_getElem? (i := 2) (by decide +kernel))) rfl, by decide +kernel, by decide +kernel, (show 4 ≤ 21 by decide)⟩
theorem yi_X0_leftBy : Yi_ yX0_leftBy := ⟨tb_in (qt_4 (List.mem_of_getElem? (i := 27) (by decide +kernel))) rfl, tb_in (qt_0 (List.mem_of_getElem? (i := 19) (by decide +kernel))) rfl⟩
abbrev K_X0_setOfOrders : KT_k := (cX0_setOfOrders, 4, RX0, 2)
theorem yk_X0_setOfOrders : Yk_ yX0_setOfOrders (K_X0_setOfOrders) (some .int) 1 := ⟨(show Cond.code yX0_setOfOrders cX0_setOfOrders 4 (some .int) ∈ TB_t from tb_in (qt_4 (List.mem_of_getElem? (i := 23) rfl)) rfl), tb_in (qt_1 (List.mem_of_getElem? (i := 2) (by decide +kernel))) rfl, by decide +kernel, by decide +kernel, (show 4 ≤ 21 by decide)⟩
theorem yi_X0_setOfOrders : Yi_ yX0_setOfOrders := ⟨tb_in (qt_4 (List.mem_of_getElem? (i := 21) (by decide +kernel))) rfl, tb_in (qt_4 (List.mem_of_getElem? (i := 22) (by decide +kernel))) rfl⟩
abbrev K_X0_lowestBelow : KT_k := (cX0_lowestBelow, 8, RX0, 2)
theorem yk_X0_lowestBelow : Yk_ yX0_lowestBelow (K_X0_lowestBelow) (some .int) 4 := ⟨(show Cond.code yX0_lowestBelow cX0_lowestBelow 8 (some .int) ∈ TB_t from tb_in (qt_4 (List.mem_of_getElem? (i := 77) rfl)) rfl), tb_in (qt_1 (List.mem_of_getElem? (i := 2) (by decide +kernel))) rfl, by decide +kernel, by decide +kernel, (show 8 ≤ 21 by decide)⟩
theorem yi_X0_lowestBelow : Yi_ yX0_lowestBelow := ⟨tb_in (qt_4 (List.mem_of_getElem? (i := 76) (by decide +kernel))) rfl, tb_in (qt_0 (List.mem_of_getElem? (i := 21) (by decide +kernel))) rfl⟩
abbrev K_X0_leastWithoutOrder : KT_k := (cX0_leastWithoutOrder, 6, RX0, 3)
theorem yk_X0_leastWithoutOrder : Yk_ yX0_leastWithoutOrder (K_X0_leastWithoutOrder) (some .int) 2 := ⟨(show Cond.code yX0_leastWithoutOrder cX0_leastWithoutOrder 6 (some .int) ∈ TB_t from tb_in (qt_4 (List.mem_of_getElem? (i := 73) rfl)) rfl), tb_in (qt_1 (List.mem_of_getElem? (i := 2) (by decide +kernel))) rfl, by decide +kernel, by decide +kernel, (show 6 ≤ 21 by decide)⟩
theorem yi_X0_leastWithoutOrder : Yi_ yX0_leastWithoutOrder := ⟨tb_in (qt_4 (List.mem_of_getElem? (i := 71) (by decide +kernel))) rfl, tb_in (qt_4 (List.mem_of_getElem? (i := 72) (by decide +kernel))) rfl⟩
abbrev K_X0_saidBy : KT_k := (cX0_saidBy, 4, RX0, 1)
theorem yk_X0_saidBy : Yk_ yX0_saidBy (K_X0_saidBy) (some .int) 1 := ⟨(show Cond.code yX0_saidBy cX0_saidBy 4 (some .int) ∈ TB_t from tb_in (qt_4 (List.mem_of_getElem? (i := 61) rfl)) rfl), tb_in (qt_1 (List.mem_of_getElem? (i := 2) (by decide +kernel))) rfl, by decide +kernel, by decide +kernel, (show 4 ≤ 21 by decide)⟩
theorem yi_X0_saidBy : Yi_ yX0_saidBy := ⟨tb_in (qt_4 (List.mem_of_getElem? (i := 59) (by decide +kernel))) rfl, tb_in (qt_4 (List.mem_of_getElem? (i := 60) (by decide +kernel))) rfl⟩
abbrev K_X0_isRested : KT_k := (cX0_isRested, 4, RX0, 1)
theorem yk_X0_isRested : Yk_ yX0_isRested (K_X0_isRested) (some .boolean) 2 := ⟨(show Cond.code yX0_isRested cX0_isRested 4 (some .boolean) ∈ TB_t from tb_in (qt_4 (List.mem_of_getElem? (i := 65) rfl)) rfl), tb_in (qt_1 (List.mem_of_getElem? (i := 2) (by decide +kernel))) rfl, by decide +kernel, by decide +kernel, (show 4 ≤ 21 by decide)⟩
theorem yi_X0_isRested : Yi_ yX0_isRested := ⟨tb_in (qt_4 (List.mem_of_getElem? (i := 63) (by decide +kernel))) rfl, tb_in (qt_4 (List.mem_of_getElem? (i := 64) (by decide +kernel))) rfl⟩
abbrev K_X1_isOtherHearing : KT_k := (cX1_isOtherHearing, 2, RX1, 1)
theorem yk_X1_isOtherHearing : Yk_ yX1_isOtherHearing (K_X1_isOtherHearing) (some .boolean) 1 := ⟨(show Cond.code yX1_isOtherHearing cX1_isOtherHearing 2 (some .boolean) ∈ TB_t from tb_in (qt_4 (List.mem_of_getElem? (i := 159) rfl)) rfl), tb_in (qt_1 (List.mem_of_getElem? (i := 3) (by decide +kernel))) rfl, by decide +kernel, by decide +kernel, (show 2 ≤ 21 by decide)⟩
theorem yi_X1_isOtherHearing : Yi_ yX1_isOtherHearing := ⟨tb_in (qt_4 (List.mem_of_getElem? (i := 157) (by decide +kernel))) rfl, tb_in (qt_4 (List.mem_of_getElem? (i := 158) (by decide +kernel))) rfl⟩
abbrev K_J7_fill_53178 : KT_k := (cJ7_fill_53178, 4, RJ7, 1)
theorem yk_J7_fill_53178 : Yk_ yJ7_fill_53178 (K_J7_fill_53178) none 2 := ⟨(show Cond.code yJ7_fill_53178 cJ7_fill_53178 4 none ∈ TB_t from tb_in (qt_3 (List.mem_of_getElem? (i := 98) rfl)) rfl), tb_in (qt_1 (List.mem_of_getElem? (i := 15) (by decide +kernel))) rfl, by decide +kernel, by decide +kernel, (show 4 ≤ 21 by decide)⟩
theorem ys_J7_fill_53178 : Ys_ yJ7_fill_53178 := tb_in (qt_3 (List.mem_of_getElem? (i := 97) (by decide +kernel))) rfl
abbrev K_X10_standsAt : KT_k := (cX10_standsAt, 4, RX10, 1)
theorem yk_X10_standsAt : Yk_ yX10_standsAt (K_X10_standsAt) (some .boolean) 2 := ⟨(show Cond.code yX10_standsAt cX10_standsAt 4 (some .boolean) ∈ TB_t from tb_in (qt_3 (List.mem_of_getElem? (i := 102) rfl)) rfl), tb_in (qt_1 (List.mem_of_getElem? (i := 4) (by decide +kernel))) rfl, by decide +kernel, by decide +kernel, (show 4 ≤ 21 by decide)⟩
theorem yi_X10_standsAt : Yi_ yX10_standsAt := ⟨tb_in (qt_3 (List.mem_of_getElem? (i := 100) (by decide +kernel))) rfl, tb_in (qt_3 (List.mem_of_getElem? (i := 101) (by decide +kernel))) rfl⟩
abbrev K_X2_findStanding : KT_k := (cX2_findStanding, 7, RX2, 2)
theorem yk_X2_findStanding : Yk_ yX2_findStanding (K_X2_findStanding) (some .int) 2 := ⟨(show Cond.code yX2_findStanding cX2_findStanding 7 (some .int) ∈ TB_t from tb_in (qt_3 (List.mem_of_getElem? (i := 95) rfl)) rfl), tb_in (qt_1 (List.mem_of_getElem? (i := 8) (by decide +kernel))) rfl, by decide +kernel, by decide +kernel, (show 7 ≤ 21 by decide)⟩
theorem yi_X2_findStanding : Yi_ yX2_findStanding := ⟨tb_in (qt_3 (List.mem_of_getElem? (i := 94) (by decide +kernel))) rfl, tb_in (qt_0 (List.mem_of_getElem? (i := 5) (by decide +kernel))) rfl⟩
abbrev K_J9_min_7cf53 : KT_k := (cJ9_min_7cf53, 2, RJ9, 1)
theorem yk_J9_min_7cf53 : Yk_ yJ9_min_7cf53 (K_J9_min_7cf53) (some .int) 2 := ⟨(show Cond.code yJ9_min_7cf53 cJ9_min_7cf53 2 (some .int) ∈ TB_t from tb_in (qt_3 (List.mem_of_getElem? (i := 109) rfl)) rfl), tb_in (qt_1 (List.mem_of_getElem? (i := 16) (by decide +kernel))) rfl, by decide +kernel, by decide +kernel, (show 2 ≤ 21 by decide)⟩
theorem ys_J9_min_7cf53 : Ys_ yJ9_min_7cf53 := tb_in (qt_3 (List.mem_of_getElem? (i := 108) (by decide +kernel))) rfl
abbrev K_X2_leastCost : KT_k := (cX2_leastCost, 6, RX2, 2)
theorem yk_X2_leastCost : Yk_ yX2_leastCost (K_X2_leastCost) (some .int) 2 := ⟨(show Cond.code yX2_leastCost cX2_leastCost 6 (some .int) ∈ TB_t from tb_in (qt_3 (List.mem_of_getElem? (i := 106) rfl)) rfl), tb_in (qt_1 (List.mem_of_getElem? (i := 8) (by decide +kernel))) rfl, by decide +kernel, by decide +kernel, (show 6 ≤ 21 by decide)⟩
theorem yi_X2_leastCost : Yi_ yX2_leastCost := ⟨tb_in (qt_3 (List.mem_of_getElem? (i := 105) (by decide +kernel))) rfl, tb_in (qt_0 (List.mem_of_getElem? (i := 6) (by decide +kernel))) rfl⟩
abbrev K_X2_longestNote : KT_k := (cX2_longestNote, 5, RX2, 1)
theorem yk_X2_longestNote : Yk_ yX2_longestNote (K_X2_longestNote) (some .int) 3 := ⟨(show Cond.code yX2_longestNote cX2_longestNote 5 (some .int) ∈ TB_t from tb_in (qt_3 (List.mem_of_getElem? (i := 117) rfl)) rfl), tb_in (qt_1 (List.mem_of_getElem? (i := 8) (by decide +kernel))) rfl, by decide +kernel, by decide +kernel, (show 5 ≤ 21 by decide)⟩
theorem yi_X2_longestNote : Yi_ yX2_longestNote := ⟨tb_in (qt_3 (List.mem_of_getElem? (i := 116) (by decide +kernel))) rfl, tb_in (qt_0 (List.mem_of_getElem? (i := 8) (by decide +kernel))) rfl⟩
abbrev K_J6_numberOfTrailingZeros_0f7a4 : KT_k := (cJ6_numberOfTrailingZeros_0f7a4, 2, RJ6, 1)
theorem yk_J6_numberOfTrailingZeros_0f7a4 : Yk_ yJ6_numberOfTrailingZeros_0f7a4 (K_J6_numberOfTrailingZeros_0f7a4) (some .int) 1 := ⟨(show Cond.code yJ6_numberOfTrailingZeros_0f7a4 cJ6_numberOfTrailingZeros_0f7a4 2 (some .int) ∈ TB_t from tb_in (qt_3 (List.mem_of_getElem? (i := 120) rfl)) rfl), tb_in (qt_1 (List.mem_of_getElem? (i := 17) (by decide +kernel))) rfl, by decide +kernel, by decide +kernel, (show 2 ≤ 21 by decide)⟩
theorem ys_J6_numberOfTrailingZeros_0f7a4 : Ys_ yJ6_numberOfTrailingZeros_0f7a4 := tb_in (qt_3 (List.mem_of_getElem? (i := 119) (by decide +kernel))) rfl
abbrev K_J9_max_7cf53 : KT_k := (cJ9_max_7cf53, 2, RJ9, 1)
theorem yk_J9_max_7cf53 : Yk_ yJ9_max_7cf53 (K_J9_max_7cf53) (some .int) 2 := ⟨(show Cond.code yJ9_max_7cf53 cJ9_max_7cf53 2 (some .int) ∈ TB_t from tb_in (qt_3 (List.mem_of_getElem? (i := 124) rfl)) rfl), tb_in (qt_1 (List.mem_of_getElem? (i := 16) (by decide +kernel))) rfl, by decide +kernel, by decide +kernel, (show 2 ≤ 21 by decide)⟩
theorem ys_J9_max_7cf53 : Ys_ yJ9_max_7cf53 := tb_in (qt_3 (List.mem_of_getElem? (i := 123) (by decide +kernel))) rfl
abbrev K_X2_chooseParts : KT_k := (cX2_chooseParts, 6, RX2, 2)
theorem yk_X2_chooseParts : Yk_ yX2_chooseParts (K_X2_chooseParts) none 2 := ⟨(show Cond.code yX2_chooseParts cX2_chooseParts 6 none ∈ TB_t from tb_in (qt_3 (List.mem_of_getElem? (i := 113) rfl)) rfl), tb_in (qt_1 (List.mem_of_getElem? (i := 8) (by decide +kernel))) rfl, by decide +kernel, by decide +kernel, (show 6 ≤ 21 by decide)⟩
theorem yi_X2_chooseParts : Yi_ yX2_chooseParts := ⟨tb_in (qt_3 (List.mem_of_getElem? (i := 112) (by decide +kernel))) rfl, tb_in (qt_0 (List.mem_of_getElem? (i := 7) (by decide +kernel))) rfl⟩
abbrev K_X2_cutUp : KT_k := (cX2_cutUp, 3, RX2, 3)
theorem yk_X2_cutUp : Yk_ yX2_cutUp (K_X2_cutUp) none 2 := ⟨(show Cond.code yX2_cutUp cX2_cutUp 3 none ∈ TB_t from tb_in (qt_3 (List.mem_of_getElem? (i := 91) rfl)) rfl), tb_in (qt_1 (List.mem_of_getElem? (i := 8) (by decide +kernel))) rfl, by decide +kernel, by decide +kernel, (show 3 ≤ 21 by decide)⟩
theorem yi_X2_cutUp : Yi_ yX2_cutUp := ⟨tb_in (qt_3 (List.mem_of_getElem? (i := 89) (by decide +kernel))) rfl, tb_in (qt_3 (List.mem_of_getElem? (i := 90) (by decide +kernel))) rfl⟩
abbrev K_X2_addCosts : KT_k := (cX2_addCosts, 8, RX2, 3)
theorem yk_X2_addCosts : Yk_ yX2_addCosts (K_X2_addCosts) none 4 := ⟨(show Cond.code yX2_addCosts cX2_addCosts 8 none ∈ TB_t from tb_in (qt_3 (List.mem_of_getElem? (i := 146) rfl)) rfl), tb_in (qt_1 (List.mem_of_getElem? (i := 8) (by decide +kernel))) rfl, by decide +kernel, by decide +kernel, (show 8 ≤ 21 by decide)⟩
theorem yi_X2_addCosts : Yi_ yX2_addCosts := ⟨tb_in (qt_3 (List.mem_of_getElem? (i := 145) (by decide +kernel))) rfl, tb_in (qt_0 (List.mem_of_getElem? (i := 9) (by decide +kernel))) rfl⟩
abbrev K_X2_findLeastList : KT_k := (cX2_findLeastList, 5, RX2, 4)
theorem yk_X2_findLeastList : Yk_ yX2_findLeastList (K_X2_findLeastList) none 1 := ⟨(show Cond.code yX2_findLeastList cX2_findLeastList 5 none ∈ TB_t from tb_in (qt_3 (List.mem_of_getElem? (i := 136) rfl)) rfl), tb_in (qt_1 (List.mem_of_getElem? (i := 8) (by decide +kernel))) rfl, by decide +kernel, by decide +kernel, (show 5 ≤ 21 by decide)⟩
theorem yi_X2_findLeastList : Yi_ yX2_findLeastList := ⟨tb_in (qt_3 (List.mem_of_getElem? (i := 134) (by decide +kernel))) rfl, tb_in (qt_3 (List.mem_of_getElem? (i := 135) (by decide +kernel))) rfl⟩
abbrev K_X3_takeRow : KT_k := (cX3_takeRow, 2, RX3, 1)
theorem yk_X3_takeRow : Yk_ yX3_takeRow (K_X3_takeRow) none 1 := ⟨(show Cond.code yX3_takeRow cX3_takeRow 2 none ∈ TB_t from tb_in (qt_3 (List.mem_of_getElem? (i := 188) rfl)) rfl), tb_in (qt_1 (List.mem_of_getElem? (i := 9) (by decide +kernel))) rfl, by decide +kernel, by decide +kernel, (show 2 ≤ 21 by decide)⟩
theorem yi_X3_takeRow : Yi_ yX3_takeRow := ⟨tb_in (qt_3 (List.mem_of_getElem? (i := 186) (by decide +kernel))) rfl, tb_in (qt_3 (List.mem_of_getElem? (i := 187) (by decide +kernel))) rfl⟩
abbrev K_X9_holdRow : KT_k := (cX9_holdRow, 3, RX9, 2)
theorem yk_X9_holdRow : Yk_ yX9_holdRow (K_X9_holdRow) none 2 := ⟨(show Cond.code yX9_holdRow cX9_holdRow 3 none ∈ TB_t from tb_in (qt_3 (List.mem_of_getElem? (i := 208) rfl)) rfl), tb_in (qt_1 (List.mem_of_getElem? (i := 12) (by decide +kernel))) rfl, by decide +kernel, by decide +kernel, (show 3 ≤ 21 by decide)⟩
theorem yi_X9_holdRow : Yi_ yX9_holdRow := ⟨tb_in (qt_3 (List.mem_of_getElem? (i := 206) (by decide +kernel))) rfl, tb_in (qt_3 (List.mem_of_getElem? (i := 207) (by decide +kernel))) rfl⟩
abbrev K_X3_giveRow : KT_k := (cX3_giveRow, 2, RX3, 3)
theorem yk_X3_giveRow : Yk_ yX3_giveRow (K_X3_giveRow) none 1 := ⟨(show Cond.code yX3_giveRow cX3_giveRow 2 none ∈ TB_t from tb_in (qt_3 (List.mem_of_getElem? (i := 204) rfl)) rfl), tb_in (qt_1 (List.mem_of_getElem? (i := 9) (by decide +kernel))) rfl, by decide +kernel, by decide +kernel, (show 2 ≤ 21 by decide)⟩
theorem yi_X3_giveRow : Yi_ yX3_giveRow := ⟨tb_in (qt_3 (List.mem_of_getElem? (i := 202) (by decide +kernel))) rfl, tb_in (qt_3 (List.mem_of_getElem? (i := 203) (by decide +kernel))) rfl⟩
abbrev K_X11_isIn : KT_k := (cX11_isIn, 2, RX11, 1)
theorem yk_X11_isIn : Yk_ yX11_isIn (K_X11_isIn) (some .boolean) 2 := ⟨(show Cond.code yX11_isIn cX11_isIn 2 (some .boolean) ∈ TB_t from tb_in (qt_2 (List.mem_of_getElem? (i := 105) rfl)) rfl), tb_in (qt_1 (List.mem_of_getElem? (i := 1) (by decide +kernel))) rfl, by decide +kernel, by decide +kernel, (show 2 ≤ 21 by decide)⟩
theorem ys_X11_isIn : Ys_ yX11_isIn := tb_in (qt_2 (List.mem_of_getElem? (i := 104) (by decide +kernel))) rfl
abbrev K_X7_agrees : KT_k := (cX7_agrees, 3, RX7, 2)
theorem yk_X7_agrees : Yk_ yX7_agrees (K_X7_agrees) (some .boolean) 3 := ⟨(show Cond.code yX7_agrees cX7_agrees 3 (some .boolean) ∈ TB_t from tb_in (qt_3 (List.mem_of_getElem? (i := 200) rfl)) rfl), tb_in (qt_1 (List.mem_of_getElem? (i := 6) (by decide +kernel))) rfl, by decide +kernel, by decide +kernel, (show 3 ≤ 21 by decide)⟩
theorem ys_X7_agrees : Ys_ yX7_agrees := tb_in (qt_3 (List.mem_of_getElem? (i := 199) (by decide +kernel))) rfl
abbrev K_X3_apply : KT_k := (cX3_apply, 9, RX3, 3)
theorem yk_X3_apply : Yk_ yX3_apply (K_X3_apply) none 2 := ⟨(show Cond.code yX3_apply cX3_apply 9 none ∈ TB_t from tb_in (qt_3 (List.mem_of_getElem? (i := 197) rfl)) rfl), tb_in (qt_1 (List.mem_of_getElem? (i := 9) (by decide +kernel))) rfl, by decide +kernel, by decide +kernel, (show 9 ≤ 21 by decide)⟩
theorem yi_X3_apply : Yi_ yX3_apply := ⟨tb_in (qt_3 (List.mem_of_getElem? (i := 196) (by decide +kernel))) rfl, tb_in (qt_0 (List.mem_of_getElem? (i := 14) (by decide +kernel))) rfl⟩
abbrev K_X3_hear : KT_k := (cX3_hear, 3, RX3, 4)
theorem yk_X3_hear : Yk_ yX3_hear (K_X3_hear) none 1 := ⟨(show Cond.code yX3_hear cX3_hear 3 none ∈ TB_t from tb_in (qt_3 (List.mem_of_getElem? (i := 193) rfl)) rfl), tb_in (qt_1 (List.mem_of_getElem? (i := 9) (by decide +kernel))) rfl, by decide +kernel, by decide +kernel, (show 3 ≤ 21 by decide)⟩
theorem yi_X3_hear : Yi_ yX3_hear := ⟨tb_in (qt_3 (List.mem_of_getElem? (i := 191) (by decide +kernel))) rfl, tb_in (qt_3 (List.mem_of_getElem? (i := 192) (by decide +kernel))) rfl⟩
abbrev K_X3_outcomesOf : KT_k := (cX3_outcomesOf, 5, RX3, 3)
theorem yk_X3_outcomesOf : Yk_ yX3_outcomesOf (K_X3_outcomesOf) (some .int) 2 := ⟨(show Cond.code yX3_outcomesOf cX3_outcomesOf 5 (some .int) ∈ TB_t from tb_in (qt_3 (List.mem_of_getElem? (i := 224) rfl)) rfl), tb_in (qt_1 (List.mem_of_getElem? (i := 9) (by decide +kernel))) rfl, by decide +kernel, by decide +kernel, (show 5 ≤ 21 by decide)⟩
theorem ys_X3_outcomesOf : Ys_ yX3_outcomesOf := tb_in (qt_3 (List.mem_of_getElem? (i := 223) (by decide +kernel))) rfl
abbrev K_X3_findChances : KT_k := (cX3_findChances, 6, RX3, 4)
theorem yk_X3_findChances : Yk_ yX3_findChances (K_X3_findChances) none 2 := ⟨(show Cond.code yX3_findChances cX3_findChances 6 none ∈ TB_t from tb_in (qt_3 (List.mem_of_getElem? (i := 221) rfl)) rfl), tb_in (qt_1 (List.mem_of_getElem? (i := 9) (by decide +kernel))) rfl, by decide +kernel, by decide +kernel, (show 6 ≤ 21 by decide)⟩
theorem yi_X3_findChances : Yi_ yX3_findChances := ⟨tb_in (qt_3 (List.mem_of_getElem? (i := 220) (by decide +kernel))) rfl, tb_in (qt_0 (List.mem_of_getElem? (i := 15) (by decide +kernel))) rfl⟩
abbrev K_X3_isSpelled : KT_k := (cX3_isSpelled, 7, RX3, 1)
theorem yk_X3_isSpelled : Yk_ yX3_isSpelled (K_X3_isSpelled) (some .boolean) 3 := ⟨(show Cond.code yX3_isSpelled cX3_isSpelled 7 (some .boolean) ∈ TB_t from tb_in (qt_3 (List.mem_of_getElem? (i := 229) rfl)) rfl), tb_in (qt_1 (List.mem_of_getElem? (i := 9) (by decide +kernel))) rfl, by decide +kernel, by decide +kernel, (show 7 ≤ 21 by decide)⟩
theorem yi_X3_isSpelled : Yi_ yX3_isSpelled := ⟨tb_in (qt_3 (List.mem_of_getElem? (i := 228) (by decide +kernel))) rfl, tb_in (qt_0 (List.mem_of_getElem? (i := 16) (by decide +kernel))) rfl⟩
abbrev K_X3_hasChance : KT_k := (cX3_hasChance, 6, RX3, 1)
theorem yk_X3_hasChance : Yk_ yX3_hasChance (K_X3_hasChance) (some .boolean) 1 := ⟨(show Cond.code yX3_hasChance cX3_hasChance 6 (some .boolean) ∈ TB_t from tb_in (qt_3 (List.mem_of_getElem? (i := 233) rfl)) rfl), tb_in (qt_1 (List.mem_of_getElem? (i := 9) (by decide +kernel))) rfl, by decide +kernel, by decide +kernel, (show 6 ≤ 21 by decide)⟩
theorem yi_X3_hasChance : Yi_ yX3_hasChance := ⟨tb_in (qt_3 (List.mem_of_getElem? (i := 232) (by decide +kernel))) rfl, tb_in (qt_0 (List.mem_of_getElem? (i := 17) (by decide +kernel))) rfl⟩
abbrev K_X3_isRowLike : KT_k := (cX3_isRowLike, 3, RX3, 1)
theorem yk_X3_isRowLike : Yk_ yX3_isRowLike (K_X3_isRowLike) (some .boolean) 1 := ⟨(show Cond.code yX3_isRowLike cX3_isRowLike 3 (some .boolean) ∈ TB_t from tb_in (qt_3 (List.mem_of_getElem? (i := 238) rfl)) rfl), tb_in (qt_1 (List.mem_of_getElem? (i := 9) (by decide +kernel))) rfl, by decide +kernel, by decide +kernel, (show 3 ≤ 21 by decide)⟩
theorem yi_X3_isRowLike : Yi_ yX3_isRowLike := ⟨tb_in (qt_3 (List.mem_of_getElem? (i := 237) (by decide +kernel))) rfl, tb_in (qt_0 (List.mem_of_getElem? (i := 18) (by decide +kernel))) rfl⟩
abbrev K_X3_findDeep : KT_k := (cX3_findDeep, 5, RX3, 5)
theorem yk_X3_findDeep : Yk_ yX3_findDeep (K_X3_findDeep) none 2 := ⟨(show Cond.code yX3_findDeep cX3_findDeep 5 none ∈ TB_t from tb_in (qt_3 (List.mem_of_getElem? (i := 217) rfl)) rfl), tb_in (qt_1 (List.mem_of_getElem? (i := 9) (by decide +kernel))) rfl, by decide +kernel, by decide +kernel, (show 5 ≤ 21 by decide)⟩
theorem yi_X3_findDeep : Yi_ yX3_findDeep := ⟨tb_in (qt_3 (List.mem_of_getElem? (i := 215) (by decide +kernel))) rfl, tb_in (qt_3 (List.mem_of_getElem? (i := 216) (by decide +kernel))) rfl⟩
abbrev K_X4_findLaw : KT_k := (cX4_findLaw, 4, RX4, 1)
theorem yk_X4_findLaw : Yk_ yX4_findLaw (K_X4_findLaw) none 1 := ⟨(show Cond.code yX4_findLaw cX4_findLaw 4 none ∈ TB_t from tb_in (qt_4 (List.mem_of_getElem? (i := 103) rfl)) rfl), tb_in (qt_1 (List.mem_of_getElem? (i := 11) (by decide +kernel))) rfl, by decide +kernel, by decide +kernel, (show 4 ≤ 21 by decide)⟩
theorem yi_X4_findLaw : Yi_ yX4_findLaw := ⟨tb_in (qt_4 (List.mem_of_getElem? (i := 102) (by decide +kernel))) rfl, tb_in (qt_0 (List.mem_of_getElem? (i := 23) (by decide +kernel))) rfl⟩
abbrev K_X4_make : KT_k := (cX4_make, 6, RX4, 2)
theorem yk_X4_make : Yk_ yX4_make (K_X4_make) none 1 := ⟨(show Cond.code yX4_make cX4_make 6 none ∈ TB_t from tb_in (qt_4 (List.mem_of_getElem? (i := 98) rfl)) rfl), tb_in (qt_1 (List.mem_of_getElem? (i := 11) (by decide +kernel))) rfl, by decide +kernel, by decide +kernel, (show 6 ≤ 21 by decide)⟩
theorem yi_X4_make : Yi_ yX4_make := ⟨tb_in (qt_4 (List.mem_of_getElem? (i := 97) (by decide +kernel))) rfl, tb_in (qt_0 (List.mem_of_getElem? (i := 22) (by decide +kernel))) rfl⟩
abbrev K_X4_makeAsTold : KT_k := (cX4_makeAsTold, 3, RX4, 3)
theorem yk_X4_makeAsTold : Yk_ yX4_makeAsTold (K_X4_makeAsTold) none 1 := ⟨(show Cond.code yX4_makeAsTold cX4_makeAsTold 3 none ∈ TB_t from tb_in (qt_4 (List.mem_of_getElem? (i := 94) rfl)) rfl), tb_in (qt_1 (List.mem_of_getElem? (i := 11) (by decide +kernel))) rfl, by decide +kernel, by decide +kernel, (show 3 ≤ 21 by decide)⟩
theorem yi_X4_makeAsTold : Yi_ yX4_makeAsTold := ⟨tb_in (qt_4 (List.mem_of_getElem? (i := 92) (by decide +kernel))) rfl, tb_in (qt_4 (List.mem_of_getElem? (i := 93) (by decide +kernel))) rfl⟩
abbrev K_X4_isLed : KT_k := (cX4_isLed, 4, RX4, 1)
theorem yk_X4_isLed : Yk_ yX4_isLed (K_X4_isLed) (some .boolean) 2 := ⟨(show Cond.code yX4_isLed cX4_isLed 4 (some .boolean) ∈ TB_t from tb_in (qt_4 (List.mem_of_getElem? (i := 115) rfl)) rfl), tb_in (qt_1 (List.mem_of_getElem? (i := 11) (by decide +kernel))) rfl, by decide +kernel, by decide +kernel, (show 4 ≤ 21 by decide)⟩
theorem yi_X4_isLed : Yi_ yX4_isLed := ⟨tb_in (qt_4 (List.mem_of_getElem? (i := 114) (by decide +kernel))) rfl, tb_in (qt_0 (List.mem_of_getElem? (i := 24) (by decide +kernel))) rfl⟩
abbrev K_X4_ledPairs : KT_k := (cX4_ledPairs, 4, RX4, 2)
theorem yk_X4_ledPairs : Yk_ yX4_ledPairs (K_X4_ledPairs) (some .int) 1 := ⟨(show Cond.code yX4_ledPairs cX4_ledPairs 4 (some .int) ∈ TB_t from tb_in (qt_4 (List.mem_of_getElem? (i := 111) rfl)) rfl), tb_in (qt_1 (List.mem_of_getElem? (i := 11) (by decide +kernel))) rfl, by decide +kernel, by decide +kernel, (show 4 ≤ 21 by decide)⟩
theorem yi_X4_ledPairs : Yi_ yX4_ledPairs := ⟨tb_in (qt_4 (List.mem_of_getElem? (i := 109) (by decide +kernel))) rfl, tb_in (qt_4 (List.mem_of_getElem? (i := 110) (by decide +kernel))) rfl⟩
abbrev K_X4_waysToDeal : KT_k := (cX4_waysToDeal, 3, RX4, 1)
theorem yk_X4_waysToDeal : Yk_ yX4_waysToDeal (K_X4_waysToDeal) (some .int) 1 := ⟨(show Cond.code yX4_waysToDeal cX4_waysToDeal 3 (some .int) ∈ TB_t from tb_in (qt_4 (List.mem_of_getElem? (i := 122) rfl)) rfl), tb_in (qt_1 (List.mem_of_getElem? (i := 11) (by decide +kernel))) rfl, by decide +kernel, by decide +kernel, (show 3 ≤ 21 by decide)⟩
theorem ys_X4_waysToDeal : Ys_ yX4_waysToDeal := tb_in (qt_4 (List.mem_of_getElem? (i := 121) (by decide +kernel))) rfl
abbrev K_X4_swap : KT_k := (cX4_swap, 4, RX4, 1)
theorem yk_X4_swap : Yk_ yX4_swap (K_X4_swap) none 2 := ⟨(show Cond.code yX4_swap cX4_swap 4 none ∈ TB_t from tb_in (qt_4 (List.mem_of_getElem? (i := 135) rfl)) rfl), tb_in (qt_1 (List.mem_of_getElem? (i := 11) (by decide +kernel))) rfl, by decide +kernel, by decide +kernel, (show 4 ≤ 21 by decide)⟩
theorem yi_X4_swap : Yi_ yX4_swap := ⟨tb_in (qt_4 (List.mem_of_getElem? (i := 134) (by decide +kernel))) rfl, tb_in (qt_0 (List.mem_of_getElem? (i := 26) (by decide +kernel))) rfl⟩
abbrev K_X4_dealAnew : KT_k := (cX4_dealAnew, 6, RX4, 2)
theorem yk_X4_dealAnew : Yk_ yX4_dealAnew (K_X4_dealAnew) none 1 := ⟨(show Cond.code yX4_dealAnew cX4_dealAnew 6 none ∈ TB_t from tb_in (qt_4 (List.mem_of_getElem? (i := 131) rfl)) rfl), tb_in (qt_1 (List.mem_of_getElem? (i := 11) (by decide +kernel))) rfl, by decide +kernel, by decide +kernel, (show 6 ≤ 21 by decide)⟩
theorem yi_X4_dealAnew : Yi_ yX4_dealAnew := ⟨tb_in (qt_4 (List.mem_of_getElem? (i := 130) (by decide +kernel))) rfl, tb_in (qt_0 (List.mem_of_getElem? (i := 25) (by decide +kernel))) rfl⟩
abbrev K_X4_countOdds : KT_k := (cX4_countOdds, 6, RX4, 4)
theorem yk_X4_countOdds : Yk_ yX4_countOdds (K_X4_countOdds) (some .int) 2 := ⟨(show Cond.code yX4_countOdds cX4_countOdds 6 (some .int) ∈ TB_t from tb_in (qt_4 (List.mem_of_getElem? (i := 126) rfl)) rfl), tb_in (qt_1 (List.mem_of_getElem? (i := 11) (by decide +kernel))) rfl, by decide +kernel, by decide +kernel, (show 6 ≤ 21 by decide)⟩
theorem yi_X4_countOdds : Yi_ yX4_countOdds := ⟨tb_in (qt_4 (List.mem_of_getElem? (i := 124) (by decide +kernel))) rfl, tb_in (qt_4 (List.mem_of_getElem? (i := 125) (by decide +kernel))) rfl⟩
abbrev K_X10_clear : KT_k := (cX10_clear, 1, RX10, 1)
theorem yk_X10_clear : Yk_ yX10_clear (K_X10_clear) none 0 := ⟨(show Cond.code yX10_clear cX10_clear 1 none ∈ TB_t from tb_in (qt_2 (List.mem_of_getElem? (i := 238) rfl)) rfl), tb_in (qt_1 (List.mem_of_getElem? (i := 4) (by decide +kernel))) rfl, by decide +kernel, by decide +kernel, (show 1 ≤ 21 by decide)⟩
theorem yi_X10_clear : Yi_ yX10_clear := ⟨tb_in (qt_2 (List.mem_of_getElem? (i := 236) (by decide +kernel))) rfl, tb_in (qt_2 (List.mem_of_getElem? (i := 237) (by decide +kernel))) rfl⟩
abbrev K_X10_add : KT_k := (cX10_add, 2, RX10, 1)
theorem yk_X10_add : Yk_ yX10_add (K_X10_add) none 1 := ⟨(show Cond.code yX10_add cX10_add 2 none ∈ TB_t from tb_in (qt_3 (List.mem_of_getElem? (i := 2) rfl)) rfl), tb_in (qt_1 (List.mem_of_getElem? (i := 4) (by decide +kernel))) rfl, by decide +kernel, by decide +kernel, (show 2 ≤ 21 by decide)⟩
theorem yi_X10_add : Yi_ yX10_add := ⟨tb_in (qt_3 (List.mem_of_getElem? (i := 0) (by decide +kernel))) rfl, tb_in (qt_3 (List.mem_of_getElem? (i := 1) (by decide +kernel))) rfl⟩
abbrev K_X10_takeRow : KT_k := (cX10_takeRow, 3, RX10, 2)
theorem yk_X10_takeRow : Yk_ yX10_takeRow (K_X10_takeRow) none 1 := ⟨(show Cond.code yX10_takeRow cX10_takeRow 3 none ∈ TB_t from tb_in (qt_2 (List.mem_of_getElem? (i := 234) rfl)) rfl), tb_in (qt_1 (List.mem_of_getElem? (i := 4) (by decide +kernel))) rfl, by decide +kernel, by decide +kernel, (show 3 ≤ 21 by decide)⟩
theorem yi_X10_takeRow : Yi_ yX10_takeRow := ⟨tb_in (qt_2 (List.mem_of_getElem? (i := 232) (by decide +kernel))) rfl, tb_in (qt_2 (List.mem_of_getElem? (i := 233) (by decide +kernel))) rfl⟩
abbrev K_X5_become : KT_k := (cX5_become, 5, RX5, 3)
theorem yk_X5_become : Yk_ yX5_become (K_X5_become) none 3 := ⟨(show Cond.code yX5_become cX5_become 5 none ∈ TB_t from tb_in (qt_3 (List.mem_of_getElem? (i := 61) rfl)) rfl), tb_in (qt_1 (List.mem_of_getElem? (i := 5) (by decide +kernel))) rfl, by decide +kernel, by decide +kernel, (show 5 ≤ 21 by decide)⟩
theorem yi_X5_become : Yi_ yX5_become := ⟨tb_in (qt_3 (List.mem_of_getElem? (i := 59) (by decide +kernel))) rfl, tb_in (qt_3 (List.mem_of_getElem? (i := 60) (by decide +kernel))) rfl⟩
abbrev K_X5_failure : KT_k := (cX5_failure, 1, RX5, 1)
theorem yk_X5_failure : Yk_ yX5_failure (K_X5_failure) (some .int) 0 := ⟨(show Cond.code yX5_failure cX5_failure 1 (some .int) ∈ TB_t from tb_in (qt_5 (List.mem_of_getElem? (i := 16) rfl)) rfl), tb_in (qt_1 (List.mem_of_getElem? (i := 5) (by decide +kernel))) rfl, by decide +kernel, by decide +kernel, (show 1 ≤ 21 by decide)⟩
theorem yi_X5_failure : Yi_ yX5_failure := ⟨tb_in (qt_5 (List.mem_of_getElem? (i := 14) (by decide +kernel))) rfl, tb_in (qt_5 (List.mem_of_getElem? (i := 15) (by decide +kernel))) rfl⟩
abbrev K_X6_addOrder : KT_k := (cX6_addOrder, 4, RX6, 1)
theorem yk_X6_addOrder : Yk_ yX6_addOrder (K_X6_addOrder) none 1 := ⟨(show Cond.code yX6_addOrder cX6_addOrder 4 none ∈ TB_t from tb_in (qt_2 (List.mem_of_getElem? (i := 109) rfl)) rfl), tb_in (qt_1 (List.mem_of_getElem? (i := 10) (by decide +kernel))) rfl, by decide +kernel, by decide +kernel, (show 4 ≤ 21 by decide)⟩
theorem yi_X6_addOrder : Yi_ yX6_addOrder := ⟨tb_in (qt_2 (List.mem_of_getElem? (i := 108) (by decide +kernel))) rfl, tb_in (qt_0 (List.mem_of_getElem? (i := 1) (by decide +kernel))) rfl⟩
abbrev K_X6_spell : KT_k := (cX6_spell, 4, RX6, 1)
theorem yk_X6_spell : Yk_ yX6_spell (K_X6_spell) none 2 := ⟨(show Cond.code yX6_spell cX6_spell 4 none ∈ TB_t from tb_in (qt_2 (List.mem_of_getElem? (i := 99) rfl)) rfl), tb_in (qt_1 (List.mem_of_getElem? (i := 10) (by decide +kernel))) rfl, by decide +kernel, by decide +kernel, (show 4 ≤ 21 by decide)⟩
theorem yi_X6_spell : Yi_ yX6_spell := ⟨tb_in (qt_2 (List.mem_of_getElem? (i := 98) (by decide +kernel))) rfl, tb_in (qt_0 (List.mem_of_getElem? (i := 0) (by decide +kernel))) rfl⟩
abbrev K_X6_isSaying : KT_k := (cX6_isSaying, 4, RX6, 2)
theorem yk_X6_isSaying : Yk_ yX6_isSaying (K_X6_isSaying) (some .boolean) 2 := ⟨(show Cond.code yX6_isSaying cX6_isSaying 4 (some .boolean) ∈ TB_t from tb_in (qt_2 (List.mem_of_getElem? (i := 102) rfl)) rfl), tb_in (qt_1 (List.mem_of_getElem? (i := 10) (by decide +kernel))) rfl, by decide +kernel, by decide +kernel, (show 4 ≤ 21 by decide)⟩
theorem ys_X6_isSaying : Ys_ yX6_isSaying := tb_in (qt_2 (List.mem_of_getElem? (i := 101) (by decide +kernel))) rfl
abbrev K_X6_fitting : KT_k := (cX6_fitting, 5, RX6, 1)
theorem yk_X6_fitting : Yk_ yX6_fitting (K_X6_fitting) (some .int) 2 := ⟨(show Cond.code yX6_fitting cX6_fitting 5 (some .int) ∈ TB_t from tb_in (qt_4 (List.mem_of_getElem? (i := 10) rfl)) rfl), tb_in (qt_1 (List.mem_of_getElem? (i := 10) (by decide +kernel))) rfl, by decide +kernel, by decide +kernel, (show 5 ≤ 21 by decide)⟩
theorem yi_X6_fitting : Yi_ yX6_fitting := ⟨tb_in (qt_4 (List.mem_of_getElem? (i := 8) (by decide +kernel))) rfl, tb_in (qt_4 (List.mem_of_getElem? (i := 9) (by decide +kernel))) rfl⟩
abbrev K_J6_bitCount_0f7a4 : KT_k := (cJ6_bitCount_0f7a4, 1, RJ6, 1)
theorem yk_J6_bitCount_0f7a4 : Yk_ yJ6_bitCount_0f7a4 (K_J6_bitCount_0f7a4) (some .int) 1 := ⟨(show Cond.code yJ6_bitCount_0f7a4 cJ6_bitCount_0f7a4 1 (some .int) ∈ TB_t from tb_in (qt_4 (List.mem_of_getElem? (i := 31) rfl)) rfl), tb_in (qt_1 (List.mem_of_getElem? (i := 17) (by decide +kernel))) rfl, by decide +kernel, by decide +kernel, (show 1 ≤ 21 by decide)⟩
theorem ys_J6_bitCount_0f7a4 : Ys_ yJ6_bitCount_0f7a4 := tb_in (qt_4 (List.mem_of_getElem? (i := 30) (by decide +kernel))) rfl
abbrev K_X6_weigh : KT_k := (cX6_weigh, 6, RX6, 2)
theorem yk_X6_weigh : Yk_ yX6_weigh (K_X6_weigh) none 2 := ⟨(show Cond.code yX6_weigh cX6_weigh 6 none ∈ TB_t from tb_in (qt_4 (List.mem_of_getElem? (i := 50) rfl)) rfl), tb_in (qt_1 (List.mem_of_getElem? (i := 10) (by decide +kernel))) rfl, by decide +kernel, by decide +kernel, (show 6 ≤ 21 by decide)⟩
theorem yi_X6_weigh : Yi_ yX6_weigh := ⟨tb_in (qt_4 (List.mem_of_getElem? (i := 49) (by decide +kernel))) rfl, tb_in (qt_0 (List.mem_of_getElem? (i := 20) (by decide +kernel))) rfl⟩
abbrev K_X6_findAsk : KT_k := (cX6_findAsk, 4, RX6, 3)
theorem yk_X6_findAsk : Yk_ yX6_findAsk (K_X6_findAsk) none 1 := ⟨(show Cond.code yX6_findAsk cX6_findAsk 4 none ∈ TB_t from tb_in (qt_4 (List.mem_of_getElem? (i := 46) rfl)) rfl), tb_in (qt_1 (List.mem_of_getElem? (i := 10) (by decide +kernel))) rfl, by decide +kernel, by decide +kernel, (show 4 ≤ 21 by decide)⟩
theorem yi_X6_findAsk : Yi_ yX6_findAsk := ⟨tb_in (qt_4 (List.mem_of_getElem? (i := 44) (by decide +kernel))) rfl, tb_in (qt_4 (List.mem_of_getElem? (i := 45) (by decide +kernel))) rfl⟩
abbrev K_X7_readSign : KT_k := (cX7_readSign, 3, RX7, 1)
theorem yk_X7_readSign : Yk_ yX7_readSign (K_X7_readSign) (some .boolean) 2 := ⟨(show Cond.code yX7_readSign cX7_readSign 3 (some .boolean) ∈ TB_t from tb_in (qt_3 (List.mem_of_getElem? (i := 163) rfl)) rfl), tb_in (qt_1 (List.mem_of_getElem? (i := 6) (by decide +kernel))) rfl, by decide +kernel, by decide +kernel, (show 3 ≤ 21 by decide)⟩
theorem yi_X7_readSign : Yi_ yX7_readSign := ⟨tb_in (qt_3 (List.mem_of_getElem? (i := 162) (by decide +kernel))) rfl, tb_in (qt_0 (List.mem_of_getElem? (i := 11) (by decide +kernel))) rfl⟩
abbrev K_X7_readDigit : KT_k := (cX7_readDigit, 3, RX7, 2)
theorem yk_X7_readDigit : Yk_ yX7_readDigit (K_X7_readDigit) (some .int) 2 := ⟨(show Cond.code yX7_readDigit cX7_readDigit 3 (some .int) ∈ TB_t from tb_in (qt_3 (List.mem_of_getElem? (i := 167) rfl)) rfl), tb_in (qt_1 (List.mem_of_getElem? (i := 6) (by decide +kernel))) rfl, by decide +kernel, by decide +kernel, (show 3 ≤ 21 by decide)⟩
theorem yi_X7_readDigit : Yi_ yX7_readDigit := ⟨tb_in (qt_3 (List.mem_of_getElem? (i := 166) (by decide +kernel))) rfl, tb_in (qt_0 (List.mem_of_getElem? (i := 12) (by decide +kernel))) rfl⟩
abbrev K_X7_readSoundOrClass : KT_k := (cX7_readSoundOrClass, 3, RX7, 3)
theorem yk_X7_readSoundOrClass : Yk_ yX7_readSoundOrClass (K_X7_readSoundOrClass) (some .int) 1 := ⟨(show Cond.code yX7_readSoundOrClass cX7_readSoundOrClass 3 (some .int) ∈ TB_t from tb_in (qt_3 (List.mem_of_getElem? (i := 159) rfl)) rfl), tb_in (qt_1 (List.mem_of_getElem? (i := 6) (by decide +kernel))) rfl, by decide +kernel, by decide +kernel, (show 3 ≤ 21 by decide)⟩
theorem yi_X7_readSoundOrClass : Yi_ yX7_readSoundOrClass := ⟨tb_in (qt_3 (List.mem_of_getElem? (i := 158) (by decide +kernel))) rfl, tb_in (qt_0 (List.mem_of_getElem? (i := 10) (by decide +kernel))) rfl⟩
abbrev K_X7_readPlace : KT_k := (cX7_readPlace, 2, RX7, 4)
theorem yk_X7_readPlace : Yk_ yX7_readPlace (K_X7_readPlace) (some .int) 1 := ⟨(show Cond.code yX7_readPlace cX7_readPlace 2 (some .int) ∈ TB_t from tb_in (qt_3 (List.mem_of_getElem? (i := 172) rfl)) rfl), tb_in (qt_1 (List.mem_of_getElem? (i := 6) (by decide +kernel))) rfl, by decide +kernel, by decide +kernel, (show 2 ≤ 21 by decide)⟩
theorem yi_X7_readPlace : Yi_ yX7_readPlace := ⟨tb_in (qt_3 (List.mem_of_getElem? (i := 171) (by decide +kernel))) rfl, tb_in (qt_0 (List.mem_of_getElem? (i := 13) (by decide +kernel))) rfl⟩
abbrev K_X7_isRead : KT_k := (cX7_isRead, 2, RX7, 5)
theorem yk_X7_isRead : Yk_ yX7_isRead (K_X7_isRead) (some .boolean) 1 := ⟨(show Cond.code yX7_isRead cX7_isRead 2 (some .boolean) ∈ TB_t from tb_in (qt_3 (List.mem_of_getElem? (i := 155) rfl)) rfl), tb_in (qt_1 (List.mem_of_getElem? (i := 6) (by decide +kernel))) rfl, by decide +kernel, by decide +kernel, (show 2 ≤ 21 by decide)⟩
theorem yi_X7_isRead : Yi_ yX7_isRead := ⟨tb_in (qt_3 (List.mem_of_getElem? (i := 153) (by decide +kernel))) rfl, tb_in (qt_3 (List.mem_of_getElem? (i := 154) (by decide +kernel))) rfl⟩
abbrev K_X9_holdNothing : KT_k := (cX9_holdNothing, 1, RX9, 1)
theorem yk_X9_holdNothing : Yk_ yX9_holdNothing (K_X9_holdNothing) none 0 := ⟨(show Cond.code yX9_holdNothing cX9_holdNothing 1 none ∈ TB_t from tb_in (qt_4 (List.mem_of_getElem? (i := 212) rfl)) rfl), tb_in (qt_1 (List.mem_of_getElem? (i := 12) (by decide +kernel))) rfl, by decide +kernel, by decide +kernel, (show 1 ≤ 21 by decide)⟩
theorem yi_X9_holdNothing : Yi_ yX9_holdNothing := ⟨tb_in (qt_4 (List.mem_of_getElem? (i := 210) (by decide +kernel))) rfl, tb_in (qt_4 (List.mem_of_getElem? (i := 211) (by decide +kernel))) rfl⟩
abbrev K_X9_holdNote : KT_k := (cX9_holdNote, 2, RX9, 3)
theorem yk_X9_holdNote : Yk_ yX9_holdNote (K_X9_holdNote) none 1 := ⟨(show Cond.code yX9_holdNote cX9_holdNote 2 none ∈ TB_t from tb_in (qt_4 (List.mem_of_getElem? (i := 216) rfl)) rfl), tb_in (qt_1 (List.mem_of_getElem? (i := 12) (by decide +kernel))) rfl, by decide +kernel, by decide +kernel, (show 2 ≤ 21 by decide)⟩
theorem yi_X9_holdNote : Yi_ yX9_holdNote := ⟨tb_in (qt_4 (List.mem_of_getElem? (i := 214) (by decide +kernel))) rfl, tb_in (qt_4 (List.mem_of_getElem? (i := 215) (by decide +kernel))) rfl⟩
abbrev K_X9_set : KT_k := (cX9_set, 3, RX9, 1)
theorem yk_X9_set : Yk_ yX9_set (K_X9_set) none 2 := ⟨(show Cond.code yX9_set cX9_set 3 none ∈ TB_t from tb_in (qt_4 (List.mem_of_getElem? (i := 231) rfl)) rfl), tb_in (qt_1 (List.mem_of_getElem? (i := 12) (by decide +kernel))) rfl, by decide +kernel, by decide +kernel, (show 3 ≤ 21 by decide)⟩
theorem yi_X9_set : Yi_ yX9_set := ⟨tb_in (qt_4 (List.mem_of_getElem? (i := 229) (by decide +kernel))) rfl, tb_in (qt_4 (List.mem_of_getElem? (i := 230) (by decide +kernel))) rfl⟩
abbrev K_X9_hasPlaces : KT_k := (cX9_hasPlaces, 3, RX9, 1)
theorem yk_X9_hasPlaces : Yk_ yX9_hasPlaces (K_X9_hasPlaces) (some .boolean) 2 := ⟨(show Cond.code yX9_hasPlaces cX9_hasPlaces 3 (some .boolean) ∈ TB_t from tb_in (qt_4 (List.mem_of_getElem? (i := 239) rfl)) rfl), tb_in (qt_1 (List.mem_of_getElem? (i := 12) (by decide +kernel))) rfl, by decide +kernel, by decide +kernel, (show 3 ≤ 21 by decide)⟩
theorem yi_X9_hasPlaces : Yi_ yX9_hasPlaces := ⟨tb_in (qt_4 (List.mem_of_getElem? (i := 237) (by decide +kernel))) rfl, tb_in (qt_4 (List.mem_of_getElem? (i := 238) (by decide +kernel))) rfl⟩
abbrev K_X9_refusalOfNote : KT_k := (cX9_refusalOfNote, 1, RX9, 1)
theorem yk_X9_refusalOfNote : Yk_ yX9_refusalOfNote (K_X9_refusalOfNote) (some .int) 0 := ⟨(show Cond.code yX9_refusalOfNote cX9_refusalOfNote 1 (some .int) ∈ TB_t from tb_in (qt_5 (List.mem_of_getElem? (i := 8) rfl)) rfl), tb_in (qt_1 (List.mem_of_getElem? (i := 12) (by decide +kernel))) rfl, by decide +kernel, by decide +kernel, (show 1 ≤ 21 by decide)⟩
theorem yi_X9_refusalOfNote : Yi_ yX9_refusalOfNote := ⟨tb_in (qt_5 (List.mem_of_getElem? (i := 6) (by decide +kernel))) rfl, tb_in (qt_5 (List.mem_of_getElem? (i := 7) (by decide +kernel))) rfl⟩
abbrev K_X9_refusalOfRow : KT_k := (cX9_refusalOfRow, 1, RX9, 1)
theorem yk_X9_refusalOfRow : Yk_ yX9_refusalOfRow (K_X9_refusalOfRow) (some .int) 0 := ⟨(show Cond.code yX9_refusalOfRow cX9_refusalOfRow 1 (some .int) ∈ TB_t from tb_in (qt_2 (List.mem_of_getElem? (i := 229) rfl)) rfl), tb_in (qt_1 (List.mem_of_getElem? (i := 12) (by decide +kernel))) rfl, by decide +kernel, by decide +kernel, (show 1 ≤ 21 by decide)⟩
theorem yi_X9_refusalOfRow : Yi_ yX9_refusalOfRow := ⟨tb_in (qt_2 (List.mem_of_getElem? (i := 227) (by decide +kernel))) rfl, tb_in (qt_2 (List.mem_of_getElem? (i := 228) (by decide +kernel))) rfl⟩
abbrev K_X9_refusalOfBytes : KT_k := (cX9_refusalOfBytes, 2, RX9, 2)
theorem yk_X9_refusalOfBytes : Yk_ yX9_refusalOfBytes (K_X9_refusalOfBytes) (some .int) 0 := ⟨(show Cond.code yX9_refusalOfBytes cX9_refusalOfBytes 2 (some .int) ∈ TB_t from tb_in (qt_2 (List.mem_of_getElem? (i := 225) rfl)) rfl), tb_in (qt_1 (List.mem_of_getElem? (i := 12) (by decide +kernel))) rfl, by decide +kernel, by decide +kernel, (show 2 ≤ 21 by decide)⟩
theorem yi_X9_refusalOfBytes : Yi_ yX9_refusalOfBytes := ⟨tb_in (qt_2 (List.mem_of_getElem? (i := 223) (by decide +kernel))) rfl, tb_in (qt_2 (List.mem_of_getElem? (i := 224) (by decide +kernel))) rfl⟩
abbrev K_X9_refusalOfSounds : KT_k := (cX9_refusalOfSounds, 5, RX9, 3)
theorem yk_X9_refusalOfSounds : Yk_ yX9_refusalOfSounds (K_X9_refusalOfSounds) (some .int) 2 := ⟨(show Cond.code yX9_refusalOfSounds cX9_refusalOfSounds 5 (some .int) ∈ TB_t from tb_in (qt_2 (List.mem_of_getElem? (i := 221) rfl)) rfl), tb_in (qt_1 (List.mem_of_getElem? (i := 12) (by decide +kernel))) rfl, by decide +kernel, by decide +kernel, (show 5 ≤ 21 by decide)⟩
theorem yi_X9_refusalOfSounds : Yi_ yX9_refusalOfSounds := ⟨tb_in (qt_2 (List.mem_of_getElem? (i := 219) (by decide +kernel))) rfl, tb_in (qt_2 (List.mem_of_getElem? (i := 220) (by decide +kernel))) rfl⟩
abbrev K_X10_isLike : KT_k := (cX10_isLike, 2, RX10, 2)
theorem yk_X10_isLike : Yk_ yX10_isLike (K_X10_isLike) (some .boolean) 1 := ⟨(show Cond.code yX10_isLike cX10_isLike 2 (some .boolean) ∈ TB_t from tb_in (qt_4 (List.mem_of_getElem? (i := 163) rfl)) rfl), tb_in (qt_1 (List.mem_of_getElem? (i := 4) (by decide +kernel))) rfl, by decide +kernel, by decide +kernel, (show 2 ≤ 21 by decide)⟩
theorem yi_X10_isLike : Yi_ yX10_isLike := ⟨tb_in (qt_4 (List.mem_of_getElem? (i := 161) (by decide +kernel))) rfl, tb_in (qt_4 (List.mem_of_getElem? (i := 162) (by decide +kernel))) rfl⟩
abbrev K_X11_isTold : KT_k := (cX11_isTold, 1, RX11, 2)
theorem yk_X11_isTold : Yk_ yX11_isTold (K_X11_isTold) (some .boolean) 1 := ⟨(show Cond.code yX11_isTold cX11_isTold 1 (some .boolean) ∈ TB_t from tb_in (qt_2 (List.mem_of_getElem? (i := 217) rfl)) rfl), tb_in (qt_1 (List.mem_of_getElem? (i := 1) (by decide +kernel))) rfl, by decide +kernel, by decide +kernel, (show 1 ≤ 21 by decide)⟩
theorem ys_X11_isTold : Ys_ yX11_isTold := tb_in (qt_2 (List.mem_of_getElem? (i := 216) (by decide +kernel))) rfl
abbrev K_X11_card : KT_k := (cX11_card, 7, RX11, 4)
theorem yk_X11_card : Yk_ yX11_card (K_X11_card) (some .int) 4 := ⟨(show Cond.code yX11_card cX11_card 7 (some .int) ∈ TB_t from tb_in (qt_2 (List.mem_of_getElem? (i := 213) rfl)) rfl), tb_in (qt_1 (List.mem_of_getElem? (i := 1) (by decide +kernel))) rfl, by decide +kernel, by decide +kernel, (show 7 ≤ 21 by decide)⟩
theorem yi_X11_card : Yi_ yX11_card := ⟨tb_in (qt_2 (List.mem_of_getElem? (i := 211) (by decide +kernel))) rfl, tb_in (qt_2 (List.mem_of_getElem? (i := 212) (by decide +kernel))) rfl⟩
abbrev K_X11_about : KT_k := (cX11_about, 4, RX11, 2)
theorem yk_X11_about : Yk_ yX11_about (K_X11_about) (some .int) 2 := ⟨(show Cond.code yX11_about cX11_about 4 (some .int) ∈ TB_t from tb_in (qt_3 (List.mem_of_getElem? (i := 6) rfl)) rfl), tb_in (qt_1 (List.mem_of_getElem? (i := 1) (by decide +kernel))) rfl, by decide +kernel, by decide +kernel, (show 4 ≤ 21 by decide)⟩
theorem yi_X11_about : Yi_ yX11_about := ⟨tb_in (qt_3 (List.mem_of_getElem? (i := 4) (by decide +kernel))) rfl, tb_in (qt_3 (List.mem_of_getElem? (i := 5) (by decide +kernel))) rfl⟩
abbrev K_X11_sound : KT_k := (cX11_sound, 3, RX11, 2)
theorem yk_X11_sound : Yk_ yX11_sound (K_X11_sound) (some .int) 2 := ⟨(show Cond.code yX11_sound cX11_sound 3 (some .int) ∈ TB_t from tb_in (qt_3 (List.mem_of_getElem? (i := 10) rfl)) rfl), tb_in (qt_1 (List.mem_of_getElem? (i := 1) (by decide +kernel))) rfl, by decide +kernel, by decide +kernel, (show 3 ≤ 21 by decide)⟩
theorem yi_X11_sound : Yi_ yX11_sound := ⟨tb_in (qt_3 (List.mem_of_getElem? (i := 8) (by decide +kernel))) rfl, tb_in (qt_3 (List.mem_of_getElem? (i := 9) (by decide +kernel))) rfl⟩
abbrev K_X11_classOf : KT_k := (cX11_classOf, 4, RX11, 2)
theorem yk_X11_classOf : Yk_ yX11_classOf (K_X11_classOf) (some .int) 2 := ⟨(show Cond.code yX11_classOf cX11_classOf 4 (some .int) ∈ TB_t from tb_in (qt_3 (List.mem_of_getElem? (i := 14) rfl)) rfl), tb_in (qt_1 (List.mem_of_getElem? (i := 1) (by decide +kernel))) rfl, by decide +kernel, by decide +kernel, (show 4 ≤ 21 by decide)⟩
theorem yi_X11_classOf : Yi_ yX11_classOf := ⟨tb_in (qt_3 (List.mem_of_getElem? (i := 12) (by decide +kernel))) rfl, tb_in (qt_3 (List.mem_of_getElem? (i := 13) (by decide +kernel))) rfl⟩
abbrev K_X11_speaker : KT_k := (cX11_speaker, 6, RX11, 2)
theorem yk_X11_speaker : Yk_ yX11_speaker (K_X11_speaker) (some .int) 3 := ⟨(show Cond.code yX11_speaker cX11_speaker 6 (some .int) ∈ TB_t from tb_in (qt_3 (List.mem_of_getElem? (i := 18) rfl)) rfl), tb_in (qt_1 (List.mem_of_getElem? (i := 1) (by decide +kernel))) rfl, by decide +kernel, by decide +kernel, (show 6 ≤ 21 by decide)⟩
theorem yi_X11_speaker : Yi_ yX11_speaker := ⟨tb_in (qt_3 (List.mem_of_getElem? (i := 16) (by decide +kernel))) rfl, tb_in (qt_3 (List.mem_of_getElem? (i := 17) (by decide +kernel))) rfl⟩
abbrev K_X11_oneOrTwo : KT_k := (cX11_oneOrTwo, 3, RX11, 5)
theorem yk_X11_oneOrTwo : Yk_ yX11_oneOrTwo (K_X11_oneOrTwo) (some .int) 2 := ⟨(show Cond.code yX11_oneOrTwo cX11_oneOrTwo 3 (some .int) ∈ TB_t from tb_in (qt_3 (List.mem_of_getElem? (i := 22) rfl)) rfl), tb_in (qt_1 (List.mem_of_getElem? (i := 1) (by decide +kernel))) rfl, by decide +kernel, by decide +kernel, (show 3 ≤ 21 by decide)⟩
theorem yi_X11_oneOrTwo : Yi_ yX11_oneOrTwo := ⟨tb_in (qt_3 (List.mem_of_getElem? (i := 20) (by decide +kernel))) rfl, tb_in (qt_3 (List.mem_of_getElem? (i := 21) (by decide +kernel))) rfl⟩
abbrev K_X11_note : KT_k := (cX11_note, 5, RX11, 4)
theorem yk_X11_note : Yk_ yX11_note (K_X11_note) (some .int) 2 := ⟨(show Cond.code yX11_note cX11_note 5 (some .int) ∈ TB_t from tb_in (qt_3 (List.mem_of_getElem? (i := 57) rfl)) rfl), tb_in (qt_1 (List.mem_of_getElem? (i := 1) (by decide +kernel))) rfl, by decide +kernel, by decide +kernel, (show 5 ≤ 21 by decide)⟩
theorem yi_X11_note : Yi_ yX11_note := ⟨tb_in (qt_3 (List.mem_of_getElem? (i := 55) (by decide +kernel))) rfl, tb_in (qt_3 (List.mem_of_getElem? (i := 56) (by decide +kernel))) rfl⟩
abbrev K_X11_use : KT_k := (cX11_use, 4, RX11, 2)
theorem yk_X11_use : Yk_ yX11_use (K_X11_use) (some .int) 2 := ⟨(show Cond.code yX11_use cX11_use 4 (some .int) ∈ TB_t from tb_in (qt_3 (List.mem_of_getElem? (i := 74) rfl)) rfl), tb_in (qt_1 (List.mem_of_getElem? (i := 1) (by decide +kernel))) rfl, by decide +kernel, by decide +kernel, (show 4 ≤ 21 by decide)⟩
theorem yi_X11_use : Yi_ yX11_use := ⟨tb_in (qt_3 (List.mem_of_getElem? (i := 72) (by decide +kernel))) rfl, tb_in (qt_3 (List.mem_of_getElem? (i := 73) (by decide +kernel))) rfl⟩
abbrev K_X11_meaningOf : KT_k := (cX11_meaningOf, 6, RX11, 4)
theorem yk_X11_meaningOf : Yk_ yX11_meaningOf (K_X11_meaningOf) (some .int) 1 := ⟨(show Cond.code yX11_meaningOf cX11_meaningOf 6 (some .int) ∈ TB_t from tb_in (qt_3 (List.mem_of_getElem? (i := 86) rfl)) rfl), tb_in (qt_1 (List.mem_of_getElem? (i := 1) (by decide +kernel))) rfl, by decide +kernel, by decide +kernel, (show 6 ≤ 21 by decide)⟩
theorem yi_X11_meaningOf : Yi_ yX11_meaningOf := ⟨tb_in (qt_3 (List.mem_of_getElem? (i := 85) (by decide +kernel))) rfl, tb_in (qt_0 (List.mem_of_getElem? (i := 4) (by decide +kernel))) rfl⟩
abbrev K_X11_told : KT_k := (cX11_told, 3, RX11, 5)
theorem yk_X11_told : Yk_ yX11_told (K_X11_told) (some .int) 2 := ⟨(show Cond.code yX11_told cX11_told 3 (some .int) ∈ TB_t from tb_in (qt_3 (List.mem_of_getElem? (i := 78) rfl)) rfl), tb_in (qt_1 (List.mem_of_getElem? (i := 1) (by decide +kernel))) rfl, by decide +kernel, by decide +kernel, (show 3 ≤ 21 by decide)⟩
theorem yi_X11_told : Yi_ yX11_told := ⟨tb_in (qt_3 (List.mem_of_getElem? (i := 76) (by decide +kernel))) rfl, tb_in (qt_3 (List.mem_of_getElem? (i := 77) (by decide +kernel))) rfl⟩
abbrev K_X11_cut : KT_k := (cX11_cut, 3, RX11, 4)
theorem yk_X11_cut : Yk_ yX11_cut (K_X11_cut) (some .int) 2 := ⟨(show Cond.code yX11_cut cX11_cut 3 (some .int) ∈ TB_t from tb_in (qt_3 (List.mem_of_getElem? (i := 128) rfl)) rfl), tb_in (qt_1 (List.mem_of_getElem? (i := 1) (by decide +kernel))) rfl, by decide +kernel, by decide +kernel, (show 3 ≤ 21 by decide)⟩
theorem yi_X11_cut : Yi_ yX11_cut := ⟨tb_in (qt_3 (List.mem_of_getElem? (i := 126) (by decide +kernel))) rfl, tb_in (qt_3 (List.mem_of_getElem? (i := 127) (by decide +kernel))) rfl⟩
abbrev K_X11_leastList : KT_k := (cX11_leastList, 2, RX11, 5)
theorem yk_X11_leastList : Yk_ yX11_leastList (K_X11_leastList) (some .int) 1 := ⟨(show Cond.code yX11_leastList cX11_leastList 2 (some .int) ∈ TB_t from tb_in (qt_3 (List.mem_of_getElem? (i := 132) rfl)) rfl), tb_in (qt_1 (List.mem_of_getElem? (i := 1) (by decide +kernel))) rfl, by decide +kernel, by decide +kernel, (show 2 ≤ 21 by decide)⟩
theorem yi_X11_leastList : Yi_ yX11_leastList := ⟨tb_in (qt_3 (List.mem_of_getElem? (i := 130) (by decide +kernel))) rfl, tb_in (qt_3 (List.mem_of_getElem? (i := 131) (by decide +kernel))) rfl⟩
abbrev K_X11_fault : KT_k := (cX11_fault, 3, RX11, 6)
theorem yk_X11_fault : Yk_ yX11_fault (K_X11_fault) (some .int) 1 := ⟨(show Cond.code yX11_fault cX11_fault 3 (some .int) ∈ TB_t from tb_in (qt_3 (List.mem_of_getElem? (i := 150) rfl)) rfl), tb_in (qt_1 (List.mem_of_getElem? (i := 1) (by decide +kernel))) rfl, by decide +kernel, by decide +kernel, (show 3 ≤ 21 by decide)⟩
theorem yi_X11_fault : Yi_ yX11_fault := ⟨tb_in (qt_3 (List.mem_of_getElem? (i := 148) (by decide +kernel))) rfl, tb_in (qt_3 (List.mem_of_getElem? (i := 149) (by decide +kernel))) rfl⟩
abbrev K_X11_rule : KT_k := (cX11_rule, 3, RX11, 6)
theorem yk_X11_rule : Yk_ yX11_rule (K_X11_rule) (some .int) 1 := ⟨(show Cond.code yX11_rule cX11_rule 3 (some .int) ∈ TB_t from tb_in (qt_3 (List.mem_of_getElem? (i := 176) rfl)) rfl), tb_in (qt_1 (List.mem_of_getElem? (i := 1) (by decide +kernel))) rfl, by decide +kernel, by decide +kernel, (show 3 ≤ 21 by decide)⟩
theorem yi_X11_rule : Yi_ yX11_rule := ⟨tb_in (qt_3 (List.mem_of_getElem? (i := 174) (by decide +kernel))) rfl, tb_in (qt_3 (List.mem_of_getElem? (i := 175) (by decide +kernel))) rfl⟩
abbrev K_X11_heard : KT_k := (cX11_heard, 4, RX11, 5)
theorem yk_X11_heard : Yk_ yX11_heard (K_X11_heard) (some .int) 2 := ⟨(show Cond.code yX11_heard cX11_heard 4 (some .int) ∈ TB_t from tb_in (qt_3 (List.mem_of_getElem? (i := 184) rfl)) rfl), tb_in (qt_1 (List.mem_of_getElem? (i := 1) (by decide +kernel))) rfl, by decide +kernel, by decide +kernel, (show 4 ≤ 21 by decide)⟩
theorem yi_X11_heard : Yi_ yX11_heard := ⟨tb_in (qt_3 (List.mem_of_getElem? (i := 182) (by decide +kernel))) rfl, tb_in (qt_3 (List.mem_of_getElem? (i := 183) (by decide +kernel))) rfl⟩
abbrev K_X11_deep : KT_k := (cX11_deep, 3, RX11, 6)
theorem yk_X11_deep : Yk_ yX11_deep (K_X11_deep) (some .int) 2 := ⟨(show Cond.code yX11_deep cX11_deep 3 (some .int) ∈ TB_t from tb_in (qt_3 (List.mem_of_getElem? (i := 213) rfl)) rfl), tb_in (qt_1 (List.mem_of_getElem? (i := 1) (by decide +kernel))) rfl, by decide +kernel, by decide +kernel, (show 3 ≤ 21 by decide)⟩
theorem yi_X11_deep : Yi_ yX11_deep := ⟨tb_in (qt_3 (List.mem_of_getElem? (i := 211) (by decide +kernel))) rfl, tb_in (qt_3 (List.mem_of_getElem? (i := 212) (by decide +kernel))) rfl⟩
abbrev K_X11_refusalOfSaying : KT_k := (cX11_refusalOfSaying, 2, RX11, 3)
theorem yk_X11_refusalOfSaying : Yk_ yX11_refusalOfSaying (K_X11_refusalOfSaying) (some .int) 1 := ⟨(show Cond.code yX11_refusalOfSaying cX11_refusalOfSaying 2 (some .int) ∈ TB_t from tb_in (qt_4 (List.mem_of_getElem? (i := 5) rfl)) rfl), tb_in (qt_1 (List.mem_of_getElem? (i := 1) (by decide +kernel))) rfl, by decide +kernel, by decide +kernel, (show 2 ≤ 21 by decide)⟩
theorem ys_X11_refusalOfSaying : Ys_ yX11_refusalOfSaying := tb_in (qt_4 (List.mem_of_getElem? (i := 4) (by decide +kernel))) rfl
abbrev K_X11_said : KT_k := (cX11_said, 8, RX11, 4)
theorem yk_X11_said : Yk_ yX11_said (K_X11_said) (some .int) 4 := ⟨(show Cond.code yX11_said cX11_said 8 (some .int) ∈ TB_t from tb_in (qt_4 (List.mem_of_getElem? (i := 2) rfl)) rfl), tb_in (qt_1 (List.mem_of_getElem? (i := 1) (by decide +kernel))) rfl, by decide +kernel, by decide +kernel, (show 8 ≤ 21 by decide)⟩
theorem yi_X11_said : Yi_ yX11_said := ⟨tb_in (qt_4 (List.mem_of_getElem? (i := 0) (by decide +kernel))) rfl, tb_in (qt_4 (List.mem_of_getElem? (i := 1) (by decide +kernel))) rfl⟩
abbrev K_X11_isVillageOrAll : KT_k := (cX11_isVillageOrAll, 1, RX11, 2)
theorem yk_X11_isVillageOrAll : Yk_ yX11_isVillageOrAll (K_X11_isVillageOrAll) (some .boolean) 1 := ⟨(show Cond.code yX11_isVillageOrAll cX11_isVillageOrAll 1 (some .boolean) ∈ TB_t from tb_in (qt_4 (List.mem_of_getElem? (i := 19) rfl)) rfl), tb_in (qt_1 (List.mem_of_getElem? (i := 1) (by decide +kernel))) rfl, by decide +kernel, by decide +kernel, (show 1 ≤ 21 by decide)⟩
theorem ys_X11_isVillageOrAll : Ys_ yX11_isVillageOrAll := tb_in (qt_4 (List.mem_of_getElem? (i := 18) (by decide +kernel))) rfl
abbrev K_X11_orders : KT_k := (cX11_orders, 6, RX11, 3)
theorem yk_X11_orders : Yk_ yX11_orders (K_X11_orders) (some .int) 2 := ⟨(show Cond.code yX11_orders cX11_orders 6 (some .int) ∈ TB_t from tb_in (qt_4 (List.mem_of_getElem? (i := 16) rfl)) rfl), tb_in (qt_1 (List.mem_of_getElem? (i := 1) (by decide +kernel))) rfl, by decide +kernel, by decide +kernel, (show 6 ≤ 21 by decide)⟩
theorem yi_X11_orders : Yi_ yX11_orders := ⟨tb_in (qt_4 (List.mem_of_getElem? (i := 14) (by decide +kernel))) rfl, tb_in (qt_4 (List.mem_of_getElem? (i := 15) (by decide +kernel))) rfl⟩
abbrev K_X11_fits : KT_k := (cX11_fits, 4, RX11, 4)
theorem yk_X11_fits : Yk_ yX11_fits (K_X11_fits) (some .int) 2 := ⟨(show Cond.code yX11_fits cX11_fits 4 (some .int) ∈ TB_t from tb_in (qt_4 (List.mem_of_getElem? (i := 38) rfl)) rfl), tb_in (qt_1 (List.mem_of_getElem? (i := 1) (by decide +kernel))) rfl, by decide +kernel, by decide +kernel, (show 4 ≤ 21 by decide)⟩
theorem yi_X11_fits : Yi_ yX11_fits := ⟨tb_in (qt_4 (List.mem_of_getElem? (i := 36) (by decide +kernel))) rfl, tb_in (qt_4 (List.mem_of_getElem? (i := 37) (by decide +kernel))) rfl⟩
abbrev K_X11_ask : KT_k := (cX11_ask, 4, RX11, 4)
theorem yk_X11_ask : Yk_ yX11_ask (K_X11_ask) (some .int) 2 := ⟨(show Cond.code yX11_ask cX11_ask 4 (some .int) ∈ TB_t from tb_in (qt_4 (List.mem_of_getElem? (i := 42) rfl)) rfl), tb_in (qt_1 (List.mem_of_getElem? (i := 1) (by decide +kernel))) rfl, by decide +kernel, by decide +kernel, (show 4 ≤ 21 by decide)⟩
theorem yi_X11_ask : Yi_ yX11_ask := ⟨tb_in (qt_4 (List.mem_of_getElem? (i := 40) (by decide +kernel))) rfl, tb_in (qt_4 (List.mem_of_getElem? (i := 41) (by decide +kernel))) rfl⟩
abbrev K_X11_who : KT_k := (cX11_who, 7, RX11, 2)
theorem yk_X11_who : Yk_ yX11_who (K_X11_who) (some .int) 2 := ⟨(show Cond.code yX11_who cX11_who 7 (some .int) ∈ TB_t from tb_in (qt_4 (List.mem_of_getElem? (i := 57) rfl)) rfl), tb_in (qt_1 (List.mem_of_getElem? (i := 1) (by decide +kernel))) rfl, by decide +kernel, by decide +kernel, (show 7 ≤ 21 by decide)⟩
theorem yi_X11_who : Yi_ yX11_who := ⟨tb_in (qt_4 (List.mem_of_getElem? (i := 55) (by decide +kernel))) rfl, tb_in (qt_4 (List.mem_of_getElem? (i := 56) (by decide +kernel))) rfl⟩
abbrev K_X11_none : KT_k := (cX11_none, 4, RX11, 4)
theorem yk_X11_none : Yk_ yX11_none (K_X11_none) (some .int) 1 := ⟨(show Cond.code yX11_none cX11_none 4 (some .int) ∈ TB_t from tb_in (qt_4 (List.mem_of_getElem? (i := 69) rfl)) rfl), tb_in (qt_1 (List.mem_of_getElem? (i := 1) (by decide +kernel))) rfl, by decide +kernel, by decide +kernel, (show 4 ≤ 21 by decide)⟩
theorem yi_X11_none : Yi_ yX11_none := ⟨tb_in (qt_4 (List.mem_of_getElem? (i := 67) (by decide +kernel))) rfl, tb_in (qt_4 (List.mem_of_getElem? (i := 68) (by decide +kernel))) rfl⟩
abbrev K_X11_reader : KT_k := (cX11_reader, 5, RX11, 4)
theorem yk_X11_reader : Yk_ yX11_reader (K_X11_reader) (some .int) 3 := ⟨(show Cond.code yX11_reader cX11_reader 5 (some .int) ∈ TB_t from tb_in (qt_4 (List.mem_of_getElem? (i := 81) rfl)) rfl), tb_in (qt_1 (List.mem_of_getElem? (i := 1) (by decide +kernel))) rfl, by decide +kernel, by decide +kernel, (show 5 ≤ 21 by decide)⟩
theorem yi_X11_reader : Yi_ yX11_reader := ⟨tb_in (qt_4 (List.mem_of_getElem? (i := 79) (by decide +kernel))) rfl, tb_in (qt_4 (List.mem_of_getElem? (i := 80) (by decide +kernel))) rfl⟩
abbrev K_X11_neighbour : KT_k := (cX11_neighbour, 4, RX11, 4)
theorem yk_X11_neighbour : Yk_ yX11_neighbour (K_X11_neighbour) (some .int) 2 := ⟨(show Cond.code yX11_neighbour cX11_neighbour 4 (some .int) ∈ TB_t from tb_in (qt_4 (List.mem_of_getElem? (i := 86) rfl)) rfl), tb_in (qt_1 (List.mem_of_getElem? (i := 1) (by decide +kernel))) rfl, by decide +kernel, by decide +kernel, (show 4 ≤ 21 by decide)⟩
theorem yi_X11_neighbour : Yi_ yX11_neighbour := ⟨tb_in (qt_4 (List.mem_of_getElem? (i := 84) (by decide +kernel))) rfl, tb_in (qt_4 (List.mem_of_getElem? (i := 85) (by decide +kernel))) rfl⟩
abbrev K_X11_law : KT_k := (cX11_law, 2, RX11, 4)
theorem yk_X11_law : Yk_ yX11_law (K_X11_law) (some .int) 1 := ⟨(show Cond.code yX11_law cX11_law 2 (some .int) ∈ TB_t from tb_in (qt_4 (List.mem_of_getElem? (i := 90) rfl)) rfl), tb_in (qt_1 (List.mem_of_getElem? (i := 1) (by decide +kernel))) rfl, by decide +kernel, by decide +kernel, (show 2 ≤ 21 by decide)⟩
theorem yi_X11_law : Yi_ yX11_law := ⟨tb_in (qt_4 (List.mem_of_getElem? (i := 88) (by decide +kernel))) rfl, tb_in (qt_4 (List.mem_of_getElem? (i := 89) (by decide +kernel))) rfl⟩
abbrev K_X11_led : KT_k := (cX11_led, 2, RX11, 4)
theorem yk_X11_led : Yk_ yX11_led (K_X11_led) (some .int) 1 := ⟨(show Cond.code yX11_led cX11_led 2 (some .int) ∈ TB_t from tb_in (qt_4 (List.mem_of_getElem? (i := 107) rfl)) rfl), tb_in (qt_1 (List.mem_of_getElem? (i := 1) (by decide +kernel))) rfl, by decide +kernel, by decide +kernel, (show 2 ≤ 21 by decide)⟩
theorem yi_X11_led : Yi_ yX11_led := ⟨tb_in (qt_4 (List.mem_of_getElem? (i := 105) (by decide +kernel))) rfl, tb_in (qt_4 (List.mem_of_getElem? (i := 106) (by decide +kernel))) rfl⟩
abbrev K_X11_odds : KT_k := (cX11_odds, 3, RX11, 5)
theorem yk_X11_odds : Yk_ yX11_odds (K_X11_odds) (some .int) 1 := ⟨(show Cond.code yX11_odds cX11_odds 3 (some .int) ∈ TB_t from tb_in (qt_4 (List.mem_of_getElem? (i := 119) rfl)) rfl), tb_in (qt_1 (List.mem_of_getElem? (i := 1) (by decide +kernel))) rfl, by decide +kernel, by decide +kernel, (show 3 ≤ 21 by decide)⟩
theorem yi_X11_odds : Yi_ yX11_odds := ⟨tb_in (qt_4 (List.mem_of_getElem? (i := 117) (by decide +kernel))) rfl, tb_in (qt_4 (List.mem_of_getElem? (i := 118) (by decide +kernel))) rfl⟩
abbrev K_X11_bar : KT_k := (cX11_bar, 7, RX11, 2)
theorem yk_X11_bar : Yk_ yX11_bar (K_X11_bar) (some .int) 2 := ⟨(show Cond.code yX11_bar cX11_bar 7 (some .int) ∈ TB_t from tb_in (qt_4 (List.mem_of_getElem? (i := 139) rfl)) rfl), tb_in (qt_1 (List.mem_of_getElem? (i := 1) (by decide +kernel))) rfl, by decide +kernel, by decide +kernel, (show 7 ≤ 21 by decide)⟩
theorem yi_X11_bar : Yi_ yX11_bar := ⟨tb_in (qt_4 (List.mem_of_getElem? (i := 137) (by decide +kernel))) rfl, tb_in (qt_4 (List.mem_of_getElem? (i := 138) (by decide +kernel))) rfl⟩
abbrev K_X11_takeBack : KT_k := (cX11_takeBack, 2, RX11, 2)
theorem yk_X11_takeBack : Yk_ yX11_takeBack (K_X11_takeBack) (some .int) 1 := ⟨(show Cond.code yX11_takeBack cX11_takeBack 2 (some .int) ∈ TB_t from tb_in (qt_4 (List.mem_of_getElem? (i := 143) rfl)) rfl), tb_in (qt_1 (List.mem_of_getElem? (i := 1) (by decide +kernel))) rfl, by decide +kernel, by decide +kernel, (show 2 ≤ 21 by decide)⟩
theorem yi_X11_takeBack : Yi_ yX11_takeBack := ⟨tb_in (qt_4 (List.mem_of_getElem? (i := 141) (by decide +kernel))) rfl, tb_in (qt_4 (List.mem_of_getElem? (i := 142) (by decide +kernel))) rfl⟩
abbrev K_X11_leaned : KT_k := (cX11_leaned, 4, RX11, 4)
theorem yk_X11_leaned : Yk_ yX11_leaned (K_X11_leaned) (some .int) 1 := ⟨(show Cond.code yX11_leaned cX11_leaned 4 (some .int) ∈ TB_t from tb_in (qt_4 (List.mem_of_getElem? (i := 147) rfl)) rfl), tb_in (qt_1 (List.mem_of_getElem? (i := 1) (by decide +kernel))) rfl, by decide +kernel, by decide +kernel, (show 4 ≤ 21 by decide)⟩
theorem yi_X11_leaned : Yi_ yX11_leaned := ⟨tb_in (qt_4 (List.mem_of_getElem? (i := 145) (by decide +kernel))) rfl, tb_in (qt_4 (List.mem_of_getElem? (i := 146) (by decide +kernel))) rfl⟩
abbrev K_X11_pairsOf : KT_k := (cX11_pairsOf, 6, RX11, 3)
theorem yk_X11_pairsOf : Yk_ yX11_pairsOf (K_X11_pairsOf) (some .int) 2 := ⟨(show Cond.code yX11_pairsOf cX11_pairsOf 6 (some .int) ∈ TB_t from tb_in (qt_4 (List.mem_of_getElem? (i := 155) rfl)) rfl), tb_in (qt_1 (List.mem_of_getElem? (i := 1) (by decide +kernel))) rfl, by decide +kernel, by decide +kernel, (show 6 ≤ 21 by decide)⟩
theorem yi_X11_pairsOf : Yi_ yX11_pairsOf := ⟨tb_in (qt_4 (List.mem_of_getElem? (i := 154) (by decide +kernel))) rfl, tb_in (qt_0 (List.mem_of_getElem? (i := 27) (by decide +kernel))) rfl⟩
abbrev K_X11_weight : KT_k := (cX11_weight, 5, RX11, 4)
theorem yk_X11_weight : Yk_ yX11_weight (K_X11_weight) (some .int) 2 := ⟨(show Cond.code yX11_weight cX11_weight 5 (some .int) ∈ TB_t from tb_in (qt_4 (List.mem_of_getElem? (i := 151) rfl)) rfl), tb_in (qt_1 (List.mem_of_getElem? (i := 1) (by decide +kernel))) rfl, by decide +kernel, by decide +kernel, (show 5 ≤ 21 by decide)⟩
theorem yi_X11_weight : Yi_ yX11_weight := ⟨tb_in (qt_4 (List.mem_of_getElem? (i := 149) (by decide +kernel))) rfl, tb_in (qt_4 (List.mem_of_getElem? (i := 150) (by decide +kernel))) rfl⟩
abbrev K_X11_image : KT_k := (cX11_image, 1, RX11, 4)
theorem yk_X11_image : Yk_ yX11_image (K_X11_image) (some .int) 0 := ⟨(show Cond.code yX11_image cX11_image 1 (some .int) ∈ TB_t from tb_in (qt_4 (List.mem_of_getElem? (i := 168) rfl)) rfl), tb_in (qt_1 (List.mem_of_getElem? (i := 1) (by decide +kernel))) rfl, by decide +kernel, by decide +kernel, (show 1 ≤ 21 by decide)⟩
theorem yi_X11_image : Yi_ yX11_image := ⟨tb_in (qt_4 (List.mem_of_getElem? (i := 166) (by decide +kernel))) rfl, tb_in (qt_4 (List.mem_of_getElem? (i := 167) (by decide +kernel))) rfl⟩
abbrev K_X11_restore : KT_k := (cX11_restore, 1, RX11, 4)
theorem yk_X11_restore : Yk_ yX11_restore (K_X11_restore) (some .int) 0 := ⟨(show Cond.code yX11_restore cX11_restore 1 (some .int) ∈ TB_t from tb_in (qt_4 (List.mem_of_getElem? (i := 192) rfl)) rfl), tb_in (qt_1 (List.mem_of_getElem? (i := 1) (by decide +kernel))) rfl, by decide +kernel, by decide +kernel, (show 1 ≤ 21 by decide)⟩
theorem yi_X11_restore : Yi_ yX11_restore := ⟨tb_in (qt_4 (List.mem_of_getElem? (i := 190) (by decide +kernel))) rfl, tb_in (qt_4 (List.mem_of_getElem? (i := 191) (by decide +kernel))) rfl⟩
abbrev K_X11_cardsWithSingles : KT_k := (cX11_cardsWithSingles, 3, RX11, 4)
theorem yk_X11_cardsWithSingles : Yk_ yX11_cardsWithSingles (K_X11_cardsWithSingles) (some .int) 0 := ⟨(show Cond.code yX11_cardsWithSingles cX11_cardsWithSingles 3 (some .int) ∈ TB_t from tb_in (qt_4 (List.mem_of_getElem? (i := 204) rfl)) rfl), tb_in (qt_1 (List.mem_of_getElem? (i := 1) (by decide +kernel))) rfl, by decide +kernel, by decide +kernel, (show 3 ≤ 21 by decide)⟩
theorem yi_X11_cardsWithSingles : Yi_ yX11_cardsWithSingles := ⟨tb_in (qt_4 (List.mem_of_getElem? (i := 203) (by decide +kernel))) rfl, tb_in (qt_0 (List.mem_of_getElem? (i := 28) (by decide +kernel))) rfl⟩
abbrev K_X11_count : KT_k := (cX11_count, 2, RX11, 5)
theorem yk_X11_count : Yk_ yX11_count (K_X11_count) (some .int) 1 := ⟨(show Cond.code yX11_count cX11_count 2 (some .int) ∈ TB_t from tb_in (qt_4 (List.mem_of_getElem? (i := 196) rfl)) rfl), tb_in (qt_1 (List.mem_of_getElem? (i := 1) (by decide +kernel))) rfl, by decide +kernel, by decide +kernel, (show 2 ≤ 21 by decide)⟩
theorem yi_X11_count : Yi_ yX11_count := ⟨tb_in (qt_4 (List.mem_of_getElem? (i := 194) (by decide +kernel))) rfl, tb_in (qt_4 (List.mem_of_getElem? (i := 195) (by decide +kernel))) rfl⟩
abbrev K_X11_keep : KT_k := (cX11_keep, 4, RX11, 4)
theorem yk_X11_keep : Yk_ yX11_keep (K_X11_keep) (some .int) 3 := ⟨(show Cond.code yX11_keep cX11_keep 4 (some .int) ∈ TB_t from tb_in (qt_4 (List.mem_of_getElem? (i := 208) rfl)) rfl), tb_in (qt_1 (List.mem_of_getElem? (i := 1) (by decide +kernel))) rfl, by decide +kernel, by decide +kernel, (show 4 ≤ 21 by decide)⟩
theorem yi_X11_keep : Yi_ yX11_keep := ⟨tb_in (qt_4 (List.mem_of_getElem? (i := 206) (by decide +kernel))) rfl, tb_in (qt_4 (List.mem_of_getElem? (i := 207) (by decide +kernel))) rfl⟩
abbrev K_X11_row : KT_k := (cX11_row, 4, RX11, 3)
theorem yk_X11_row : Yk_ yX11_row (K_X11_row) (some .int) 3 := ⟨(show Cond.code yX11_row cX11_row 4 (some .int) ∈ TB_t from tb_in (qt_4 (List.mem_of_getElem? (i := 221) rfl)) rfl), tb_in (qt_1 (List.mem_of_getElem? (i := 1) (by decide +kernel))) rfl, by decide +kernel, by decide +kernel, (show 4 ≤ 21 by decide)⟩
theorem yi_X11_row : Yi_ yX11_row := ⟨tb_in (qt_4 (List.mem_of_getElem? (i := 219) (by decide +kernel))) rfl, tb_in (qt_4 (List.mem_of_getElem? (i := 220) (by decide +kernel))) rfl⟩
abbrev K_X11_put : KT_k := (cX11_put, 5, RX11, 2)
theorem yk_X11_put : Yk_ yX11_put (K_X11_put) (some .int) 3 := ⟨(show Cond.code yX11_put cX11_put 5 (some .int) ∈ TB_t from tb_in (qt_4 (List.mem_of_getElem? (i := 226) rfl)) rfl), tb_in (qt_1 (List.mem_of_getElem? (i := 1) (by decide +kernel))) rfl, by decide +kernel, by decide +kernel, (show 5 ≤ 21 by decide)⟩
theorem yi_X11_put : Yi_ yX11_put := ⟨tb_in (qt_4 (List.mem_of_getElem? (i := 224) (by decide +kernel))) rfl, tb_in (qt_4 (List.mem_of_getElem? (i := 225) (by decide +kernel))) rfl⟩
abbrev K_X11_copy : KT_k := (cX11_copy, 8, RX11, 2)
theorem yk_X11_copy : Yk_ yX11_copy (K_X11_copy) (some .int) 5 := ⟨(show Cond.code yX11_copy cX11_copy 8 (some .int) ∈ TB_t from tb_in (qt_4 (List.mem_of_getElem? (i := 235) rfl)) rfl), tb_in (qt_1 (List.mem_of_getElem? (i := 1) (by decide +kernel))) rfl, by decide +kernel, by decide +kernel, (show 8 ≤ 21 by decide)⟩
theorem yi_X11_copy : Yi_ yX11_copy := ⟨tb_in (qt_4 (List.mem_of_getElem? (i := 233) (by decide +kernel))) rfl, tb_in (qt_4 (List.mem_of_getElem? (i := 234) (by decide +kernel))) rfl⟩
abbrev K_X11_length : KT_k := (cX11_length, 3, RX11, 2)
theorem yk_X11_length : Yk_ yX11_length (K_X11_length) (some .int) 1 := ⟨(show Cond.code yX11_length cX11_length 3 (some .int) ∈ TB_t from tb_in (qt_5 (List.mem_of_getElem? (i := 4) rfl)) rfl), tb_in (qt_1 (List.mem_of_getElem? (i := 1) (by decide +kernel))) rfl, by decide +kernel, by decide +kernel, (show 3 ≤ 21 by decide)⟩
theorem yi_X11_length : Yi_ yX11_length := ⟨tb_in (qt_5 (List.mem_of_getElem? (i := 2) (by decide +kernel))) rfl, tb_in (qt_5 (List.mem_of_getElem? (i := 3) (by decide +kernel))) rfl⟩
abbrev K_X11_toss : KT_k := (cX11_toss, 3, RX11, 2)
theorem yk_X11_toss : Yk_ yX11_toss (K_X11_toss) (some .int) 1 := ⟨(show Cond.code yX11_toss cX11_toss 3 (some .int) ∈ TB_t from tb_in (qt_5 (List.mem_of_getElem? (i := 12) rfl)) rfl), tb_in (qt_1 (List.mem_of_getElem? (i := 1) (by decide +kernel))) rfl, by decide +kernel, by decide +kernel, (show 3 ≤ 21 by decide)⟩
theorem yi_X11_toss : Yi_ yX11_toss := ⟨tb_in (qt_5 (List.mem_of_getElem? (i := 10) (by decide +kernel))) rfl, tb_in (qt_5 (List.mem_of_getElem? (i := 11) (by decide +kernel))) rfl⟩
abbrev K_X12_thrown : KT_k := (cX12_thrown, 1, RX12, 1)
theorem yk_X12_thrown : Yk_ yX12_thrown (K_X12_thrown) (some .int) 0 := ⟨(show Cond.code yX12_thrown cX12_thrown 1 (some .int) ∈ TB_t from tb_in (qt_5 (List.mem_of_getElem? (i := 220) rfl)) rfl), tb_in (qt_1 (List.mem_of_getElem? (i := 13) (by decide +kernel))) rfl, by decide +kernel, by decide +kernel, (show 1 ≤ 21 by decide)⟩
theorem yi_X12_thrown : Yi_ yX12_thrown := ⟨tb_in (qt_5 (List.mem_of_getElem? (i := 218) (by decide +kernel))) rfl, tb_in (qt_5 (List.mem_of_getElem? (i := 219) (by decide +kernel))) rfl⟩
abbrev K_X12_isIn : KT_k := (cX12_isIn, 6, RX12, 1)
theorem yk_X12_isIn : Yk_ yX12_isIn (K_X12_isIn) (some .boolean) 3 := ⟨(show Cond.code yX12_isIn cX12_isIn 6 (some .boolean) ∈ TB_t from tb_in (qt_5 (List.mem_of_getElem? (i := 231) rfl)) rfl), tb_in (qt_1 (List.mem_of_getElem? (i := 13) (by decide +kernel))) rfl, by decide +kernel, by decide +kernel, (show 6 ≤ 21 by decide)⟩
theorem ys_X12_isIn : Ys_ yX12_isIn := tb_in (qt_5 (List.mem_of_getElem? (i := 230) (by decide +kernel))) rfl
abbrev K_X12_isCard : KT_k := (cX12_isCard, 2, RX12, 2)
theorem yk_X12_isCard : Yk_ yX12_isCard (K_X12_isCard) (some .boolean) 1 := ⟨(show Cond.code yX12_isCard cX12_isCard 2 (some .boolean) ∈ TB_t from tb_in (qt_6 (List.mem_of_getElem? (i := 10) rfl)) rfl), tb_in (qt_1 (List.mem_of_getElem? (i := 13) (by decide +kernel))) rfl, by decide +kernel, by decide +kernel, (show 2 ≤ 21 by decide)⟩
theorem yi_X12_isCard : Yi_ yX12_isCard := ⟨tb_in (qt_6 (List.mem_of_getElem? (i := 9) (by decide +kernel))) rfl, tb_in (qt_0 (List.mem_of_getElem? (i := 32) (by decide +kernel))) rfl⟩
abbrev K_X12_isNote : KT_k := (cX12_isNote, 2, RX12, 2)
theorem yk_X12_isNote : Yk_ yX12_isNote (K_X12_isNote) (some .boolean) 1 := ⟨(show Cond.code yX12_isNote cX12_isNote 2 (some .boolean) ∈ TB_t from tb_in (qt_6 (List.mem_of_getElem? (i := 70) rfl)) rfl), tb_in (qt_1 (List.mem_of_getElem? (i := 13) (by decide +kernel))) rfl, by decide +kernel, by decide +kernel, (show 2 ≤ 21 by decide)⟩
theorem yi_X12_isNote : Yi_ yX12_isNote := ⟨tb_in (qt_6 (List.mem_of_getElem? (i := 69) (by decide +kernel))) rfl, tb_in (qt_0 (List.mem_of_getElem? (i := 40) (by decide +kernel))) rfl⟩
abbrev K_X12_isShelf : KT_k := (cX12_isShelf, 1, RX12, 2)
theorem yk_X12_isShelf : Yk_ yX12_isShelf (K_X12_isShelf) (some .boolean) 1 := ⟨(show Cond.code yX12_isShelf cX12_isShelf 1 (some .boolean) ∈ TB_t from tb_in (qt_5 (List.mem_of_getElem? (i := 227) rfl)) rfl), tb_in (qt_1 (List.mem_of_getElem? (i := 13) (by decide +kernel))) rfl, by decide +kernel, by decide +kernel, (show 1 ≤ 21 by decide)⟩
theorem ys_X12_isShelf : Ys_ yX12_isShelf := tb_in (qt_5 (List.mem_of_getElem? (i := 226) (by decide +kernel))) rfl
abbrev K_X12_of : KT_k := (cX12_of, 3, RX12, 1)
theorem yk_X12_of : Yk_ yX12_of (K_X12_of) (some .int) 2 := ⟨(show Cond.code yX12_of cX12_of 3 (some .int) ∈ TB_t from tb_in (qt_6 (List.mem_of_getElem? (i := 15) rfl)) rfl), tb_in (qt_1 (List.mem_of_getElem? (i := 13) (by decide +kernel))) rfl, by decide +kernel, by decide +kernel, (show 3 ≤ 21 by decide)⟩
theorem yi_X12_of : Yi_ yX12_of := ⟨tb_in (qt_6 (List.mem_of_getElem? (i := 14) (by decide +kernel))) rfl, tb_in (qt_0 (List.mem_of_getElem? (i := 33) (by decide +kernel))) rfl⟩
abbrev K_X12_noteOf : KT_k := (cX12_noteOf, 3, RX12, 1)
theorem yk_X12_noteOf : Yk_ yX12_noteOf (K_X12_noteOf) (some .int) 2 := ⟨(show Cond.code yX12_noteOf cX12_noteOf 3 (some .int) ∈ TB_t from tb_in (qt_6 (List.mem_of_getElem? (i := 86) rfl)) rfl), tb_in (qt_1 (List.mem_of_getElem? (i := 13) (by decide +kernel))) rfl, by decide +kernel, by decide +kernel, (show 3 ≤ 21 by decide)⟩
theorem yi_X12_noteOf : Yi_ yX12_noteOf := ⟨tb_in (qt_6 (List.mem_of_getElem? (i := 85) (by decide +kernel))) rfl, tb_in (qt_0 (List.mem_of_getElem? (i := 43) (by decide +kernel))) rfl⟩
abbrev K_X12_becomes : KT_k := (cX12_becomes, 4, RX12, 1)
theorem yk_X12_becomes : Yk_ yX12_becomes (K_X12_becomes) (some .int) 2 := ⟨(show Cond.code yX12_becomes cX12_becomes 4 (some .int) ∈ TB_t from tb_in (qt_6 (List.mem_of_getElem? (i := 28) rfl)) rfl), tb_in (qt_1 (List.mem_of_getElem? (i := 13) (by decide +kernel))) rfl, by decide +kernel, by decide +kernel, (show 4 ≤ 21 by decide)⟩
theorem yi_X12_becomes : Yi_ yX12_becomes := ⟨tb_in (qt_6 (List.mem_of_getElem? (i := 27) (by decide +kernel))) rfl, tb_in (qt_0 (List.mem_of_getElem? (i := 34) (by decide +kernel))) rfl⟩
abbrev K_X12_wrongRow : KT_k := (cX12_wrongRow, 3, RX12, 3)
theorem yk_X12_wrongRow : Yk_ yX12_wrongRow (K_X12_wrongRow) (some .int) 2 := ⟨(show Cond.code yX12_wrongRow cX12_wrongRow 3 (some .int) ∈ TB_t from tb_in (qt_6 (List.mem_of_getElem? (i := 1) rfl)) rfl), tb_in (qt_1 (List.mem_of_getElem? (i := 13) (by decide +kernel))) rfl, by decide +kernel, by decide +kernel, (show 3 ≤ 21 by decide)⟩
theorem yi_X12_wrongRow : Yi_ yX12_wrongRow := ⟨tb_in (qt_6 (List.mem_of_getElem? (i := 0) (by decide +kernel))) rfl, tb_in (qt_0 (List.mem_of_getElem? (i := 31) (by decide +kernel))) rfl⟩
abbrev K_X12_wrongSounds : KT_k := (cX12_wrongSounds, 6, RX12, 4)
theorem yk_X12_wrongSounds : Yk_ yX12_wrongSounds (K_X12_wrongSounds) (some .int) 3 := ⟨(show Cond.code yX12_wrongSounds cX12_wrongSounds 6 (some .int) ∈ TB_t from tb_in (qt_5 (List.mem_of_getElem? (i := 237) rfl)) rfl), tb_in (qt_1 (List.mem_of_getElem? (i := 13) (by decide +kernel))) rfl, by decide +kernel, by decide +kernel, (show 6 ≤ 21 by decide)⟩
theorem yi_X12_wrongSounds : Yi_ yX12_wrongSounds := ⟨tb_in (qt_5 (List.mem_of_getElem? (i := 236) (by decide +kernel))) rfl, tb_in (qt_0 (List.mem_of_getElem? (i := 30) (by decide +kernel))) rfl⟩
abbrev K_X12_card : KT_k := (cX12_card, 8, RX12, 5)
theorem yk_X12_card : Yk_ yX12_card (K_X12_card) (some .int) 4 := ⟨(show Cond.code yX12_card cX12_card 8 (some .int) ∈ TB_t from tb_in (qt_5 (List.mem_of_getElem? (i := 224) rfl)) rfl), tb_in (qt_1 (List.mem_of_getElem? (i := 13) (by decide +kernel))) rfl, by decide +kernel, by decide +kernel, (show 8 ≤ 21 by decide)⟩
theorem yi_X12_card : Yi_ yX12_card := ⟨tb_in (qt_5 (List.mem_of_getElem? (i := 222) (by decide +kernel))) rfl, tb_in (qt_5 (List.mem_of_getElem? (i := 223) (by decide +kernel))) rfl⟩
abbrev K_X12_about : KT_k := (cX12_about, 3, RX12, 3)
theorem yk_X12_about : Yk_ yX12_about (K_X12_about) (some .int) 2 := ⟨(show Cond.code yX12_about cX12_about 3 (some .int) ∈ TB_t from tb_in (qt_6 (List.mem_of_getElem? (i := 6) rfl)) rfl), tb_in (qt_1 (List.mem_of_getElem? (i := 13) (by decide +kernel))) rfl, by decide +kernel, by decide +kernel, (show 3 ≤ 21 by decide)⟩
theorem yi_X12_about : Yi_ yX12_about := ⟨tb_in (qt_6 (List.mem_of_getElem? (i := 4) (by decide +kernel))) rfl, tb_in (qt_6 (List.mem_of_getElem? (i := 5) (by decide +kernel))) rfl⟩
abbrev K_X12_sound : KT_k := (cX12_sound, 3, RX12, 3)
theorem yk_X12_sound : Yk_ yX12_sound (K_X12_sound) (some .int) 2 := ⟨(show Cond.code yX12_sound cX12_sound 3 (some .int) ∈ TB_t from tb_in (qt_6 (List.mem_of_getElem? (i := 19) rfl)) rfl), tb_in (qt_1 (List.mem_of_getElem? (i := 13) (by decide +kernel))) rfl, by decide +kernel, by decide +kernel, (show 3 ≤ 21 by decide)⟩
theorem yi_X12_sound : Yi_ yX12_sound := ⟨tb_in (qt_6 (List.mem_of_getElem? (i := 17) (by decide +kernel))) rfl, tb_in (qt_6 (List.mem_of_getElem? (i := 18) (by decide +kernel))) rfl⟩
abbrev K_X12_classOf : KT_k := (cX12_classOf, 3, RX12, 2)
theorem yk_X12_classOf : Yk_ yX12_classOf (K_X12_classOf) (some .int) 2 := ⟨(show Cond.code yX12_classOf cX12_classOf 3 (some .int) ∈ TB_t from tb_in (qt_6 (List.mem_of_getElem? (i := 23) rfl)) rfl), tb_in (qt_1 (List.mem_of_getElem? (i := 13) (by decide +kernel))) rfl, by decide +kernel, by decide +kernel, (show 3 ≤ 21 by decide)⟩
theorem yi_X12_classOf : Yi_ yX12_classOf := ⟨tb_in (qt_6 (List.mem_of_getElem? (i := 21) (by decide +kernel))) rfl, tb_in (qt_6 (List.mem_of_getElem? (i := 22) (by decide +kernel))) rfl⟩
abbrev K_X12_speaker : KT_k := (cX12_speaker, 4, RX12, 2)
theorem yk_X12_speaker : Yk_ yX12_speaker (K_X12_speaker) (some .int) 3 := ⟨(show Cond.code yX12_speaker cX12_speaker 4 (some .int) ∈ TB_t from tb_in (qt_6 (List.mem_of_getElem? (i := 32) rfl)) rfl), tb_in (qt_1 (List.mem_of_getElem? (i := 13) (by decide +kernel))) rfl, by decide +kernel, by decide +kernel, (show 4 ≤ 21 by decide)⟩
theorem yi_X12_speaker : Yi_ yX12_speaker := ⟨tb_in (qt_6 (List.mem_of_getElem? (i := 30) (by decide +kernel))) rfl, tb_in (qt_6 (List.mem_of_getElem? (i := 31) (by decide +kernel))) rfl⟩
abbrev K_X12_counts : KT_k := (cX12_counts, 2, RX12, 2)
theorem yk_X12_counts : Yk_ yX12_counts (K_X12_counts) (some .boolean) 1 := ⟨(show Cond.code yX12_counts cX12_counts 2 (some .boolean) ∈ TB_t from tb_in (qt_6 (List.mem_of_getElem? (i := 45) rfl)) rfl), tb_in (qt_1 (List.mem_of_getElem? (i := 13) (by decide +kernel))) rfl, by decide +kernel, by decide +kernel, (show 2 ≤ 21 by decide)⟩
theorem yi_X12_counts : Yi_ yX12_counts := ⟨tb_in (qt_6 (List.mem_of_getElem? (i := 44) (by decide +kernel))) rfl, tb_in (qt_0 (List.mem_of_getElem? (i := 36) (by decide +kernel))) rfl⟩
abbrev K_X12_others : KT_k := (cX12_others, 5, RX12, 2)
theorem yk_X12_others : Yk_ yX12_others (K_X12_others) (some .int) 2 := ⟨(show Cond.code yX12_others cX12_others 5 (some .int) ∈ TB_t from tb_in (qt_6 (List.mem_of_getElem? (i := 49) rfl)) rfl), tb_in (qt_1 (List.mem_of_getElem? (i := 13) (by decide +kernel))) rfl, by decide +kernel, by decide +kernel, (show 5 ≤ 21 by decide)⟩
theorem yi_X12_others : Yi_ yX12_others := ⟨tb_in (qt_6 (List.mem_of_getElem? (i := 48) (by decide +kernel))) rfl, tb_in (qt_0 (List.mem_of_getElem? (i := 37) (by decide +kernel))) rfl⟩
abbrev K_X12_areTwo : KT_k := (cX12_areTwo, 5, RX12, 3)
theorem yk_X12_areTwo : Yk_ yX12_areTwo (K_X12_areTwo) (some .boolean) 2 := ⟨(show Cond.code yX12_areTwo cX12_areTwo 5 (some .boolean) ∈ TB_t from tb_in (qt_6 (List.mem_of_getElem? (i := 41) rfl)) rfl), tb_in (qt_1 (List.mem_of_getElem? (i := 13) (by decide +kernel))) rfl, by decide +kernel, by decide +kernel, (show 5 ≤ 21 by decide)⟩
theorem yi_X12_areTwo : Yi_ yX12_areTwo := ⟨tb_in (qt_6 (List.mem_of_getElem? (i := 40) (by decide +kernel))) rfl, tb_in (qt_0 (List.mem_of_getElem? (i := 35) (by decide +kernel))) rfl⟩
abbrev K_X12_beside : KT_k := (cX12_beside, 3, RX12, 2)
theorem yk_X12_beside : Yk_ yX12_beside (K_X12_beside) (some .int) 2 := ⟨(show Cond.code yX12_beside cX12_beside 3 (some .int) ∈ TB_t from tb_in (qt_6 (List.mem_of_getElem? (i := 57) rfl)) rfl), tb_in (qt_1 (List.mem_of_getElem? (i := 13) (by decide +kernel))) rfl, by decide +kernel, by decide +kernel, (show 3 ≤ 21 by decide)⟩
theorem yi_X12_beside : Yi_ yX12_beside := ⟨tb_in (qt_6 (List.mem_of_getElem? (i := 56) (by decide +kernel))) rfl, tb_in (qt_0 (List.mem_of_getElem? (i := 39) (by decide +kernel))) rfl⟩
abbrev K_X12_stands : KT_k := (cX12_stands, 6, RX12, 3)
theorem yk_X12_stands : Yk_ yX12_stands (K_X12_stands) (some .boolean) 3 := ⟨(show Cond.code yX12_stands cX12_stands 6 (some .boolean) ∈ TB_t from tb_in (qt_6 (List.mem_of_getElem? (i := 53) rfl)) rfl), tb_in (qt_1 (List.mem_of_getElem? (i := 13) (by decide +kernel))) rfl, by decide +kernel, by decide +kernel, (show 6 ≤ 21 by decide)⟩
theorem yi_X12_stands : Yi_ yX12_stands := ⟨tb_in (qt_6 (List.mem_of_getElem? (i := 52) (by decide +kernel))) rfl, tb_in (qt_0 (List.mem_of_getElem? (i := 38) (by decide +kernel))) rfl⟩
abbrev K_X12_oneOrTwo : KT_k := (cX12_oneOrTwo, 5, RX12, 4)
theorem yk_X12_oneOrTwo : Yk_ yX12_oneOrTwo (K_X12_oneOrTwo) (some .int) 2 := ⟨(show Cond.code yX12_oneOrTwo cX12_oneOrTwo 5 (some .int) ∈ TB_t from tb_in (qt_6 (List.mem_of_getElem? (i := 37) rfl)) rfl), tb_in (qt_1 (List.mem_of_getElem? (i := 13) (by decide +kernel))) rfl, by decide +kernel, by decide +kernel, (show 5 ≤ 21 by decide)⟩
theorem yi_X12_oneOrTwo : Yi_ yX12_oneOrTwo := ⟨tb_in (qt_6 (List.mem_of_getElem? (i := 35) (by decide +kernel))) rfl, tb_in (qt_6 (List.mem_of_getElem? (i := 36) (by decide +kernel))) rfl⟩
abbrev K_X12_note : KT_k := (cX12_note, 6, RX12, 5)
theorem yk_X12_note : Yk_ yX12_note (K_X12_note) (some .int) 2 := ⟨(show Cond.code yX12_note cX12_note 6 (some .int) ∈ TB_t from tb_in (qt_6 (List.mem_of_getElem? (i := 61) rfl)) rfl), tb_in (qt_1 (List.mem_of_getElem? (i := 13) (by decide +kernel))) rfl, by decide +kernel, by decide +kernel, (show 6 ≤ 21 by decide)⟩
theorem yi_X12_note : Yi_ yX12_note := ⟨tb_in (qt_6 (List.mem_of_getElem? (i := 59) (by decide +kernel))) rfl, tb_in (qt_6 (List.mem_of_getElem? (i := 60) (by decide +kernel))) rfl⟩
abbrev K_X12_use : KT_k := (cX12_use, 4, RX12, 3)
theorem yk_X12_use : Yk_ yX12_use (K_X12_use) (some .int) 2 := ⟨(show Cond.code yX12_use cX12_use 4 (some .int) ∈ TB_t from tb_in (qt_6 (List.mem_of_getElem? (i := 66) rfl)) rfl), tb_in (qt_1 (List.mem_of_getElem? (i := 13) (by decide +kernel))) rfl, by decide +kernel, by decide +kernel, (show 4 ≤ 21 by decide)⟩
theorem yi_X12_use : Yi_ yX12_use := ⟨tb_in (qt_6 (List.mem_of_getElem? (i := 64) (by decide +kernel))) rfl, tb_in (qt_6 (List.mem_of_getElem? (i := 65) (by decide +kernel))) rfl⟩
abbrev K_X12_lengthOf : KT_k := (cX12_lengthOf, 3, RX12, 2)
theorem yk_X12_lengthOf : Yk_ yX12_lengthOf (K_X12_lengthOf) (some .int) 1 := ⟨(show Cond.code yX12_lengthOf cX12_lengthOf 3 (some .int) ∈ TB_t from tb_in (qt_6 (List.mem_of_getElem? (i := 106) rfl)) rfl), tb_in (qt_1 (List.mem_of_getElem? (i := 13) (by decide +kernel))) rfl, by decide +kernel, by decide +kernel, (show 3 ≤ 21 by decide)⟩
theorem yi_X12_lengthOf : Yi_ yX12_lengthOf := ⟨tb_in (qt_6 (List.mem_of_getElem? (i := 105) (by decide +kernel))) rfl, tb_in (qt_0 (List.mem_of_getElem? (i := 47) (by decide +kernel))) rfl⟩
abbrev K_X12_wide : KT_k := (cX12_wide, 2, RX12, 2)
theorem yk_X12_wide : Yk_ yX12_wide (K_X12_wide) (some .int) 1 := ⟨(show Cond.code yX12_wide cX12_wide 2 (some .int) ∈ TB_t from tb_in (qt_6 (List.mem_of_getElem? (i := 90) rfl)) rfl), tb_in (qt_1 (List.mem_of_getElem? (i := 13) (by decide +kernel))) rfl, by decide +kernel, by decide +kernel, (show 2 ≤ 21 by decide)⟩
theorem yi_X12_wide : Yi_ yX12_wide := ⟨tb_in (qt_6 (List.mem_of_getElem? (i := 89) (by decide +kernel))) rfl, tb_in (qt_0 (List.mem_of_getElem? (i := 44) (by decide +kernel))) rfl⟩
abbrev K_X12_soundOf : KT_k := (cX12_soundOf, 3, RX12, 2)
theorem yk_X12_soundOf : Yk_ yX12_soundOf (K_X12_soundOf) (some .int) 2 := ⟨(show Cond.code yX12_soundOf cX12_soundOf 3 (some .int) ∈ TB_t from tb_in (qt_6 (List.mem_of_getElem? (i := 94) rfl)) rfl), tb_in (qt_1 (List.mem_of_getElem? (i := 13) (by decide +kernel))) rfl, by decide +kernel, by decide +kernel, (show 3 ≤ 21 by decide)⟩
theorem yi_X12_soundOf : Yi_ yX12_soundOf := ⟨tb_in (qt_6 (List.mem_of_getElem? (i := 93) (by decide +kernel))) rfl, tb_in (qt_0 (List.mem_of_getElem? (i := 45) (by decide +kernel))) rfl⟩
abbrev K_X12_standsAt : KT_k := (cX12_standsAt, 5, RX12, 3)
theorem yk_X12_standsAt : Yk_ yX12_standsAt (K_X12_standsAt) (some .boolean) 3 := ⟨(show Cond.code yX12_standsAt cX12_standsAt 5 (some .boolean) ∈ TB_t from tb_in (qt_6 (List.mem_of_getElem? (i := 82) rfl)) rfl), tb_in (qt_1 (List.mem_of_getElem? (i := 13) (by decide +kernel))) rfl, by decide +kernel, by decide +kernel, (show 5 ≤ 21 by decide)⟩
theorem yi_X12_standsAt : Yi_ yX12_standsAt := ⟨tb_in (qt_6 (List.mem_of_getElem? (i := 81) (by decide +kernel))) rfl, tb_in (qt_0 (List.mem_of_getElem? (i := 42) (by decide +kernel))) rfl⟩
abbrev K_X12_cuts : KT_k := (cX12_cuts, 7, RX12, 4)
theorem yk_X12_cuts : Yk_ yX12_cuts (K_X12_cuts) none 1 := ⟨(show Cond.code yX12_cuts cX12_cuts 7 none ∈ TB_t from tb_in (qt_6 (List.mem_of_getElem? (i := 78) rfl)) rfl), tb_in (qt_1 (List.mem_of_getElem? (i := 13) (by decide +kernel))) rfl, by decide +kernel, by decide +kernel, (show 7 ≤ 21 by decide)⟩
theorem yi_X12_cuts : Yi_ yX12_cuts := ⟨tb_in (qt_6 (List.mem_of_getElem? (i := 77) (by decide +kernel))) rfl, tb_in (qt_0 (List.mem_of_getElem? (i := 41) (by decide +kernel))) rfl⟩
abbrev K_X12_next : KT_k := (cX12_next, 2, RX12, 3)
theorem yk_X12_next : Yk_ yX12_next (K_X12_next) (some .int) 1 := ⟨(show Cond.code yX12_next cX12_next 2 (some .int) ∈ TB_t from tb_in (qt_6 (List.mem_of_getElem? (i := 98) rfl)) rfl), tb_in (qt_1 (List.mem_of_getElem? (i := 13) (by decide +kernel))) rfl, by decide +kernel, by decide +kernel, (show 2 ≤ 21 by decide)⟩
theorem yi_X12_next : Yi_ yX12_next := ⟨tb_in (qt_6 (List.mem_of_getElem? (i := 97) (by decide +kernel))) rfl, tb_in (qt_0 (List.mem_of_getElem? (i := 46) (by decide +kernel))) rfl⟩
abbrev K_X12_cut : KT_k := (cX12_cut, 5, RX12, 5)
theorem yk_X12_cut : Yk_ yX12_cut (K_X12_cut) (some .int) 2 := ⟨(show Cond.code yX12_cut cX12_cut 5 (some .int) ∈ TB_t from tb_in (qt_6 (List.mem_of_getElem? (i := 74) rfl)) rfl), tb_in (qt_1 (List.mem_of_getElem? (i := 13) (by decide +kernel))) rfl, by decide +kernel, by decide +kernel, (show 5 ≤ 21 by decide)⟩
theorem yi_X12_cut : Yi_ yX12_cut := ⟨tb_in (qt_6 (List.mem_of_getElem? (i := 72) (by decide +kernel))) rfl, tb_in (qt_6 (List.mem_of_getElem? (i := 73) (by decide +kernel))) rfl⟩
abbrev K_X12_notesOf : KT_k := (cX12_notesOf, 4, RX12, 5)
theorem yk_X12_notesOf : Yk_ yX12_notesOf (K_X12_notesOf) (some .int) 1 := ⟨(show Cond.code yX12_notesOf cX12_notesOf 4 (some .int) ∈ TB_t from tb_in (qt_6 (List.mem_of_getElem? (i := 110) rfl)) rfl), tb_in (qt_1 (List.mem_of_getElem? (i := 13) (by decide +kernel))) rfl, by decide +kernel, by decide +kernel, (show 4 ≤ 21 by decide)⟩
theorem yi_X12_notesOf : Yi_ yX12_notesOf := ⟨tb_in (qt_6 (List.mem_of_getElem? (i := 109) (by decide +kernel))) rfl, tb_in (qt_0 (List.mem_of_getElem? (i := 48) (by decide +kernel))) rfl⟩
abbrev K_X12_told : KT_k := (cX12_told, 5, RX12, 6)
theorem yk_X12_told : Yk_ yX12_told (K_X12_told) (some .int) 2 := ⟨(show Cond.code yX12_told cX12_told 5 (some .int) ∈ TB_t from tb_in (qt_6 (List.mem_of_getElem? (i := 102) rfl)) rfl), tb_in (qt_1 (List.mem_of_getElem? (i := 13) (by decide +kernel))) rfl, by decide +kernel, by decide +kernel, (show 5 ≤ 21 by decide)⟩
theorem yi_X12_told : Yi_ yX12_told := ⟨tb_in (qt_6 (List.mem_of_getElem? (i := 100) (by decide +kernel))) rfl, tb_in (qt_6 (List.mem_of_getElem? (i := 101) (by decide +kernel))) rfl⟩
abbrev K_X12_listed : KT_k := (cX12_listed, 3, RX12, 5)
theorem yk_X12_listed : Yk_ yX12_listed (K_X12_listed) (some .int) 0 := ⟨(show Cond.code yX12_listed cX12_listed 3 (some .int) ∈ TB_t from tb_in (qt_6 (List.mem_of_getElem? (i := 119) rfl)) rfl), tb_in (qt_1 (List.mem_of_getElem? (i := 13) (by decide +kernel))) rfl, by decide +kernel, by decide +kernel, (show 3 ≤ 21 by decide)⟩
theorem yi_X12_listed : Yi_ yX12_listed := ⟨tb_in (qt_6 (List.mem_of_getElem? (i := 118) (by decide +kernel))) rfl, tb_in (qt_0 (List.mem_of_getElem? (i := 49) (by decide +kernel))) rfl⟩
abbrev K_X12_leastList : KT_k := (cX12_leastList, 7, RX12, 6)
theorem yk_X12_leastList : Yk_ yX12_leastList (K_X12_leastList) (some .int) 1 := ⟨(show Cond.code yX12_leastList cX12_leastList 7 (some .int) ∈ TB_t from tb_in (qt_6 (List.mem_of_getElem? (i := 114) rfl)) rfl), tb_in (qt_1 (List.mem_of_getElem? (i := 13) (by decide +kernel))) rfl, by decide +kernel, by decide +kernel, (show 7 ≤ 21 by decide)⟩
theorem yi_X12_leastList : Yi_ yX12_leastList := ⟨tb_in (qt_6 (List.mem_of_getElem? (i := 112) (by decide +kernel))) rfl, tb_in (qt_6 (List.mem_of_getElem? (i := 113) (by decide +kernel))) rfl⟩
abbrev K_X12_sign : KT_k := (cX12_sign, 1, RX12, 1)
theorem yk_X12_sign : Yk_ yX12_sign (K_X12_sign) (some .int) 0 := ⟨(show Cond.code yX12_sign cX12_sign 1 (some .int) ∈ TB_t from tb_in (qt_6 (List.mem_of_getElem? (i := 139) rfl)) rfl), tb_in (qt_1 (List.mem_of_getElem? (i := 13) (by decide +kernel))) rfl, by decide +kernel, by decide +kernel, (show 1 ≤ 21 by decide)⟩
theorem yi_X12_sign : Yi_ yX12_sign := ⟨tb_in (qt_6 (List.mem_of_getElem? (i := 138) (by decide +kernel))) rfl, tb_in (qt_0 (List.mem_of_getElem? (i := 53) (by decide +kernel))) rfl⟩
abbrev K_X12_takes : KT_k := (cX12_takes, 2, RX12, 2)
theorem yk_X12_takes : Yk_ yX12_takes (K_X12_takes) (some .boolean) 1 := ⟨(show Cond.code yX12_takes cX12_takes 2 (some .boolean) ∈ TB_t from tb_in (qt_6 (List.mem_of_getElem? (i := 135) rfl)) rfl), tb_in (qt_1 (List.mem_of_getElem? (i := 13) (by decide +kernel))) rfl, by decide +kernel, by decide +kernel, (show 2 ≤ 21 by decide)⟩
theorem yi_X12_takes : Yi_ yX12_takes := ⟨tb_in (qt_6 (List.mem_of_getElem? (i := 134) (by decide +kernel))) rfl, tb_in (qt_0 (List.mem_of_getElem? (i := 52) (by decide +kernel))) rfl⟩
abbrev K_X12_readsNumber : KT_k := (cX12_readsNumber, 3, RX12, 2)
theorem yk_X12_readsNumber : Yk_ yX12_readsNumber (K_X12_readsNumber) (some .boolean) 2 := ⟨(show Cond.code yX12_readsNumber cX12_readsNumber 3 (some .boolean) ∈ TB_t from tb_in (qt_6 (List.mem_of_getElem? (i := 143) rfl)) rfl), tb_in (qt_1 (List.mem_of_getElem? (i := 13) (by decide +kernel))) rfl, by decide +kernel, by decide +kernel, (show 3 ≤ 21 by decide)⟩
theorem yi_X12_readsNumber : Yi_ yX12_readsNumber := ⟨tb_in (qt_6 (List.mem_of_getElem? (i := 142) (by decide +kernel))) rfl, tb_in (qt_0 (List.mem_of_getElem? (i := 54) (by decide +kernel))) rfl⟩
abbrev K_X12_readsWhat : KT_k := (cX12_readsWhat, 4, RX12, 3)
theorem yk_X12_readsWhat : Yk_ yX12_readsWhat (K_X12_readsWhat) (some .boolean) 3 := ⟨(show Cond.code yX12_readsWhat cX12_readsWhat 4 (some .boolean) ∈ TB_t from tb_in (qt_6 (List.mem_of_getElem? (i := 131) rfl)) rfl), tb_in (qt_1 (List.mem_of_getElem? (i := 13) (by decide +kernel))) rfl, by decide +kernel, by decide +kernel, (show 4 ≤ 21 by decide)⟩
theorem yi_X12_readsWhat : Yi_ yX12_readsWhat := ⟨tb_in (qt_6 (List.mem_of_getElem? (i := 130) (by decide +kernel))) rfl, tb_in (qt_0 (List.mem_of_getElem? (i := 51) (by decide +kernel))) rfl⟩
abbrev K_X12_readsPlace : KT_k := (cX12_readsPlace, 2, RX12, 4)
theorem yk_X12_readsPlace : Yk_ yX12_readsPlace (K_X12_readsPlace) (some .boolean) 1 := ⟨(show Cond.code yX12_readsPlace cX12_readsPlace 2 (some .boolean) ∈ TB_t from tb_in (qt_6 (List.mem_of_getElem? (i := 148) rfl)) rfl), tb_in (qt_1 (List.mem_of_getElem? (i := 13) (by decide +kernel))) rfl, by decide +kernel, by decide +kernel, (show 2 ≤ 21 by decide)⟩
theorem yi_X12_readsPlace : Yi_ yX12_readsPlace := ⟨tb_in (qt_6 (List.mem_of_getElem? (i := 147) (by decide +kernel))) rfl, tb_in (qt_0 (List.mem_of_getElem? (i := 55) (by decide +kernel))) rfl⟩
abbrev K_X12_faultOf : KT_k := (cX12_faultOf, 3, RX12, 5)
theorem yk_X12_faultOf : Yk_ yX12_faultOf (K_X12_faultOf) (some .int) 1 := ⟨(show Cond.code yX12_faultOf cX12_faultOf 3 (some .int) ∈ TB_t from tb_in (qt_6 (List.mem_of_getElem? (i := 127) rfl)) rfl), tb_in (qt_1 (List.mem_of_getElem? (i := 13) (by decide +kernel))) rfl, by decide +kernel, by decide +kernel, (show 3 ≤ 21 by decide)⟩
theorem yi_X12_faultOf : Yi_ yX12_faultOf := ⟨tb_in (qt_6 (List.mem_of_getElem? (i := 126) (by decide +kernel))) rfl, tb_in (qt_0 (List.mem_of_getElem? (i := 50) (by decide +kernel))) rfl⟩
abbrev K_X12_fault : KT_k := (cX12_fault, 3, RX12, 6)
theorem yk_X12_fault : Yk_ yX12_fault (K_X12_fault) (some .int) 1 := ⟨(show Cond.code yX12_fault cX12_fault 3 (some .int) ∈ TB_t from tb_in (qt_6 (List.mem_of_getElem? (i := 123) rfl)) rfl), tb_in (qt_1 (List.mem_of_getElem? (i := 13) (by decide +kernel))) rfl, by decide +kernel, by decide +kernel, (show 3 ≤ 21 by decide)⟩
theorem yi_X12_fault : Yi_ yX12_fault := ⟨tb_in (qt_6 (List.mem_of_getElem? (i := 121) (by decide +kernel))) rfl, tb_in (qt_6 (List.mem_of_getElem? (i := 122) (by decide +kernel))) rfl⟩
abbrev K_X12_rule : KT_k := (cX12_rule, 5, RX12, 6)
theorem yk_X12_rule : Yk_ yX12_rule (K_X12_rule) (some .int) 1 := ⟨(show Cond.code yX12_rule cX12_rule 5 (some .int) ∈ TB_t from tb_in (qt_6 (List.mem_of_getElem? (i := 152) rfl)) rfl), tb_in (qt_1 (List.mem_of_getElem? (i := 13) (by decide +kernel))) rfl, by decide +kernel, by decide +kernel, (show 5 ≤ 21 by decide)⟩
theorem yi_X12_rule : Yi_ yX12_rule := ⟨tb_in (qt_6 (List.mem_of_getElem? (i := 150) (by decide +kernel))) rfl, tb_in (qt_6 (List.mem_of_getElem? (i := 151) (by decide +kernel))) rfl⟩
abbrev K_X12_fitsPlace : KT_k := (cX12_fitsPlace, 4, RX12, 1)
theorem yk_X12_fitsPlace : Yk_ yX12_fitsPlace (K_X12_fitsPlace) (some .boolean) 2 := ⟨(show Cond.code yX12_fitsPlace cX12_fitsPlace 4 (some .boolean) ∈ TB_t from tb_in (qt_6 (List.mem_of_getElem? (i := 164) rfl)) rfl), tb_in (qt_1 (List.mem_of_getElem? (i := 13) (by decide +kernel))) rfl, by decide +kernel, by decide +kernel, (show 4 ≤ 21 by decide)⟩
theorem yi_X12_fitsPlace : Yi_ yX12_fitsPlace := ⟨tb_in (qt_6 (List.mem_of_getElem? (i := 163) (by decide +kernel))) rfl, tb_in (qt_0 (List.mem_of_getElem? (i := 57) (by decide +kernel))) rfl⟩
abbrev K_X12_hears : KT_k := (cX12_hears, 6, RX12, 2)
theorem yk_X12_hears : Yk_ yX12_hears (K_X12_hears) none 0 := ⟨(show Cond.code yX12_hears cX12_hears 6 none ∈ TB_t from tb_in (qt_6 (List.mem_of_getElem? (i := 160) rfl)) rfl), tb_in (qt_1 (List.mem_of_getElem? (i := 13) (by decide +kernel))) rfl, by decide +kernel, by decide +kernel, (show 6 ≤ 21 by decide)⟩
theorem yi_X12_hears : Yi_ yX12_hears := ⟨tb_in (qt_6 (List.mem_of_getElem? (i := 159) (by decide +kernel))) rfl, tb_in (qt_0 (List.mem_of_getElem? (i := 56) (by decide +kernel))) rfl⟩
abbrev K_X12_heard : KT_k := (cX12_heard, 5, RX12, 5)
theorem yk_X12_heard : Yk_ yX12_heard (K_X12_heard) (some .int) 2 := ⟨(show Cond.code yX12_heard cX12_heard 5 (some .int) ∈ TB_t from tb_in (qt_6 (List.mem_of_getElem? (i := 156) rfl)) rfl), tb_in (qt_1 (List.mem_of_getElem? (i := 13) (by decide +kernel))) rfl, by decide +kernel, by decide +kernel, (show 5 ≤ 21 by decide)⟩
theorem yi_X12_heard : Yi_ yX12_heard := ⟨tb_in (qt_6 (List.mem_of_getElem? (i := 154) (by decide +kernel))) rfl, tb_in (qt_6 (List.mem_of_getElem? (i := 155) (by decide +kernel))) rfl⟩
abbrev K_X12_adds : KT_k := (cX12_adds, 3, RX12, 3)
theorem yk_X12_adds : Yk_ yX12_adds (K_X12_adds) none 1 := ⟨(show Cond.code yX12_adds cX12_adds 3 none ∈ TB_t from tb_in (qt_6 (List.mem_of_getElem? (i := 180) rfl)) rfl), tb_in (qt_1 (List.mem_of_getElem? (i := 13) (by decide +kernel))) rfl, by decide +kernel, by decide +kernel, (show 3 ≤ 21 by decide)⟩
theorem yi_X12_adds : Yi_ yX12_adds := ⟨tb_in (qt_6 (List.mem_of_getElem? (i := 179) (by decide +kernel))) rfl, tb_in (qt_0 (List.mem_of_getElem? (i := 60) (by decide +kernel))) rfl⟩
abbrev K_X12_isHeard : KT_k := (cX12_isHeard, 7, RX12, 4)
theorem yk_X12_isHeard : Yk_ yX12_isHeard (K_X12_isHeard) (some .boolean) 3 := ⟨(show Cond.code yX12_isHeard cX12_isHeard 7 (some .boolean) ∈ TB_t from tb_in (qt_6 (List.mem_of_getElem? (i := 176) rfl)) rfl), tb_in (qt_1 (List.mem_of_getElem? (i := 13) (by decide +kernel))) rfl, by decide +kernel, by decide +kernel, (show 7 ≤ 21 by decide)⟩
theorem yi_X12_isHeard : Yi_ yX12_isHeard := ⟨tb_in (qt_6 (List.mem_of_getElem? (i := 175) (by decide +kernel))) rfl, tb_in (qt_0 (List.mem_of_getElem? (i := 59) (by decide +kernel))) rfl⟩
abbrev K_X12_findDeep : KT_k := (cX12_findDeep, 3, RX12, 5)
theorem yk_X12_findDeep : Yk_ yX12_findDeep (K_X12_findDeep) none 1 := ⟨(show Cond.code yX12_findDeep cX12_findDeep 3 none ∈ TB_t from tb_in (qt_6 (List.mem_of_getElem? (i := 172) rfl)) rfl), tb_in (qt_1 (List.mem_of_getElem? (i := 13) (by decide +kernel))) rfl, by decide +kernel, by decide +kernel, (show 3 ≤ 21 by decide)⟩
theorem yi_X12_findDeep : Yi_ yX12_findDeep := ⟨tb_in (qt_6 (List.mem_of_getElem? (i := 171) (by decide +kernel))) rfl, tb_in (qt_0 (List.mem_of_getElem? (i := 58) (by decide +kernel))) rfl⟩
abbrev K_X12_deep : KT_k := (cX12_deep, 5, RX12, 6)
theorem yk_X12_deep : Yk_ yX12_deep (K_X12_deep) (some .int) 2 := ⟨(show Cond.code yX12_deep cX12_deep 5 (some .int) ∈ TB_t from tb_in (qt_6 (List.mem_of_getElem? (i := 168) rfl)) rfl), tb_in (qt_1 (List.mem_of_getElem? (i := 13) (by decide +kernel))) rfl, by decide +kernel, by decide +kernel, (show 5 ≤ 21 by decide)⟩
theorem yi_X12_deep : Yi_ yX12_deep := ⟨tb_in (qt_6 (List.mem_of_getElem? (i := 166) (by decide +kernel))) rfl, tb_in (qt_6 (List.mem_of_getElem? (i := 167) (by decide +kernel))) rfl⟩
abbrev K_X12_wrongParts : KT_k := (cX12_wrongParts, 5, RX12, 4)
theorem yk_X12_wrongParts : Yk_ yX12_wrongParts (K_X12_wrongParts) (some .int) 1 := ⟨(show Cond.code yX12_wrongParts cX12_wrongParts 5 (some .int) ∈ TB_t from tb_in (qt_6 (List.mem_of_getElem? (i := 188) rfl)) rfl), tb_in (qt_1 (List.mem_of_getElem? (i := 13) (by decide +kernel))) rfl, by decide +kernel, by decide +kernel, (show 5 ≤ 21 by decide)⟩
theorem yi_X12_wrongParts : Yi_ yX12_wrongParts := ⟨tb_in (qt_6 (List.mem_of_getElem? (i := 187) (by decide +kernel))) rfl, tb_in (qt_0 (List.mem_of_getElem? (i := 61) (by decide +kernel))) rfl⟩
abbrev K_X12_partsOf : KT_k := (cX12_partsOf, 4, RX12, 1)
theorem yk_X12_partsOf : Yk_ yX12_partsOf (K_X12_partsOf) (some .int) 1 := ⟨(show Cond.code yX12_partsOf cX12_partsOf 4 (some .int) ∈ TB_t from tb_in (qt_6 (List.mem_of_getElem? (i := 192) rfl)) rfl), tb_in (qt_1 (List.mem_of_getElem? (i := 13) (by decide +kernel))) rfl, by decide +kernel, by decide +kernel, (show 4 ≤ 21 by decide)⟩
theorem yi_X12_partsOf : Yi_ yX12_partsOf := ⟨tb_in (qt_6 (List.mem_of_getElem? (i := 191) (by decide +kernel))) rfl, tb_in (qt_0 (List.mem_of_getElem? (i := 62) (by decide +kernel))) rfl⟩
abbrev K_X12_placeIn : KT_k := (cX12_placeIn, 8, RX12, 1)
theorem yk_X12_placeIn : Yk_ yX12_placeIn (K_X12_placeIn) (some .int) 2 := ⟨(show Cond.code yX12_placeIn cX12_placeIn 8 (some .int) ∈ TB_t from tb_in (qt_6 (List.mem_of_getElem? (i := 218) rfl)) rfl), tb_in (qt_1 (List.mem_of_getElem? (i := 13) (by decide +kernel))) rfl, by decide +kernel, by decide +kernel, (show 8 ≤ 21 by decide)⟩
theorem ys_X12_placeIn : Ys_ yX12_placeIn := tb_in (qt_6 (List.mem_of_getElem? (i := 217) (by decide +kernel))) rfl
abbrev K_X12_fitsOrder : KT_k := (cX12_fitsOrder, 5, RX12, 2)
theorem yk_X12_fitsOrder : Yk_ yX12_fitsOrder (K_X12_fitsOrder) (some .boolean) 2 := ⟨(show Cond.code yX12_fitsOrder cX12_fitsOrder 5 (some .boolean) ∈ TB_t from tb_in (qt_6 (List.mem_of_getElem? (i := 215) rfl)) rfl), tb_in (qt_1 (List.mem_of_getElem? (i := 13) (by decide +kernel))) rfl, by decide +kernel, by decide +kernel, (show 5 ≤ 21 by decide)⟩
theorem ys_X12_fitsOrder : Ys_ yX12_fitsOrder := tb_in (qt_6 (List.mem_of_getElem? (i := 214) (by decide +kernel))) rfl
abbrev K_X12_said : KT_k := (cX12_said, 7, RX12, 5)
theorem yk_X12_said : Yk_ yX12_said (K_X12_said) (some .int) 4 := ⟨(show Cond.code yX12_said cX12_said 7 (some .int) ∈ TB_t from tb_in (qt_6 (List.mem_of_getElem? (i := 184) rfl)) rfl), tb_in (qt_1 (List.mem_of_getElem? (i := 13) (by decide +kernel))) rfl, by decide +kernel, by decide +kernel, (show 7 ≤ 21 by decide)⟩
theorem yi_X12_said : Yi_ yX12_said := ⟨tb_in (qt_6 (List.mem_of_getElem? (i := 182) (by decide +kernel))) rfl, tb_in (qt_6 (List.mem_of_getElem? (i := 183) (by decide +kernel))) rfl⟩
abbrev K_X12_isOf : KT_k := (cX12_isOf, 3, RX12, 1)
theorem yk_X12_isOf : Yk_ yX12_isOf (K_X12_isOf) (some .boolean) 2 := ⟨(show Cond.code yX12_isOf cX12_isOf 3 (some .boolean) ∈ TB_t from tb_in (qt_6 (List.mem_of_getElem? (i := 208) rfl)) rfl), tb_in (qt_1 (List.mem_of_getElem? (i := 13) (by decide +kernel))) rfl, by decide +kernel, by decide +kernel, (show 3 ≤ 21 by decide)⟩
theorem yi_X12_isOf : Yi_ yX12_isOf := ⟨tb_in (qt_6 (List.mem_of_getElem? (i := 207) (by decide +kernel))) rfl, tb_in (qt_0 (List.mem_of_getElem? (i := 64) (by decide +kernel))) rfl⟩
abbrev K_X12_fitsSaid : KT_k := (cX12_fitsSaid, 3, RX12, 3)
theorem yk_X12_fitsSaid : Yk_ yX12_fitsSaid (K_X12_fitsSaid) (some .boolean) 2 := ⟨(show Cond.code yX12_fitsSaid cX12_fitsSaid 3 (some .boolean) ∈ TB_t from tb_in (qt_6 (List.mem_of_getElem? (i := 212) rfl)) rfl), tb_in (qt_1 (List.mem_of_getElem? (i := 13) (by decide +kernel))) rfl, by decide +kernel, by decide +kernel, (show 3 ≤ 21 by decide)⟩
theorem yi_X12_fitsSaid : Yi_ yX12_fitsSaid := ⟨tb_in (qt_6 (List.mem_of_getElem? (i := 211) (by decide +kernel))) rfl, tb_in (qt_0 (List.mem_of_getElem? (i := 65) (by decide +kernel))) rfl⟩
abbrev K_X12_findSet : KT_k := (cX12_findSet, 5, RX12, 4)
theorem yk_X12_findSet : Yk_ yX12_findSet (K_X12_findSet) (some .int) 1 := ⟨(show Cond.code yX12_findSet cX12_findSet 5 (some .int) ∈ TB_t from tb_in (qt_6 (List.mem_of_getElem? (i := 204) rfl)) rfl), tb_in (qt_1 (List.mem_of_getElem? (i := 13) (by decide +kernel))) rfl, by decide +kernel, by decide +kernel, (show 5 ≤ 21 by decide)⟩
theorem yi_X12_findSet : Yi_ yX12_findSet := ⟨tb_in (qt_6 (List.mem_of_getElem? (i := 203) (by decide +kernel))) rfl, tb_in (qt_0 (List.mem_of_getElem? (i := 63) (by decide +kernel))) rfl⟩
abbrev K_X12_isVillage : KT_k := (cX12_isVillage, 1, RX12, 2)
theorem yk_X12_isVillage : Yk_ yX12_isVillage (K_X12_isVillage) (some .boolean) 1 := ⟨(show Cond.code yX12_isVillage cX12_isVillage 1 (some .boolean) ∈ TB_t from tb_in (qt_6 (List.mem_of_getElem? (i := 199) rfl)) rfl), tb_in (qt_1 (List.mem_of_getElem? (i := 13) (by decide +kernel))) rfl, by decide +kernel, by decide +kernel, (show 1 ≤ 21 by decide)⟩
theorem ys_X12_isVillage : Ys_ yX12_isVillage := tb_in (qt_6 (List.mem_of_getElem? (i := 198) (by decide +kernel))) rfl
abbrev K_X12_orders : KT_k := (cX12_orders, 6, RX12, 5)
theorem yk_X12_orders : Yk_ yX12_orders (K_X12_orders) (some .int) 2 := ⟨(show Cond.code yX12_orders cX12_orders 6 (some .int) ∈ TB_t from tb_in (qt_6 (List.mem_of_getElem? (i := 196) rfl)) rfl), tb_in (qt_1 (List.mem_of_getElem? (i := 13) (by decide +kernel))) rfl, by decide +kernel, by decide +kernel, (show 6 ≤ 21 by decide)⟩
theorem yi_X12_orders : Yi_ yX12_orders := ⟨tb_in (qt_6 (List.mem_of_getElem? (i := 194) (by decide +kernel))) rfl, tb_in (qt_6 (List.mem_of_getElem? (i := 195) (by decide +kernel))) rfl⟩
abbrev K_X12_fits : KT_k := (cX12_fits, 4, RX12, 5)
theorem yk_X12_fits : Yk_ yX12_fits (K_X12_fits) (some .int) 2 := ⟨(show Cond.code yX12_fits cX12_fits 4 (some .int) ∈ TB_t from tb_in (qt_6 (List.mem_of_getElem? (i := 222) rfl)) rfl), tb_in (qt_1 (List.mem_of_getElem? (i := 13) (by decide +kernel))) rfl, by decide +kernel, by decide +kernel, (show 4 ≤ 21 by decide)⟩
theorem yi_X12_fits : Yi_ yX12_fits := ⟨tb_in (qt_6 (List.mem_of_getElem? (i := 220) (by decide +kernel))) rfl, tb_in (qt_6 (List.mem_of_getElem? (i := 221) (by decide +kernel))) rfl⟩
abbrev K_X12_tries : KT_k := (cX12_tries, 5, RX12, 3)
theorem yk_X12_tries : Yk_ yX12_tries (K_X12_tries) none 2 := ⟨(show Cond.code yX12_tries cX12_tries 5 none ∈ TB_t from tb_in (qt_6 (List.mem_of_getElem? (i := 235) rfl)) rfl), tb_in (qt_1 (List.mem_of_getElem? (i := 13) (by decide +kernel))) rfl, by decide +kernel, by decide +kernel, (show 5 ≤ 21 by decide)⟩
theorem yi_X12_tries : Yi_ yX12_tries := ⟨tb_in (qt_6 (List.mem_of_getElem? (i := 234) (by decide +kernel))) rfl, tb_in (qt_0 (List.mem_of_getElem? (i := 67) (by decide +kernel))) rfl⟩
abbrev K_X12_goesOn (d : Nat) : KT_k := (cX12_goesOn, 7, RX12, 4 + d)
theorem yk_X12_goesOn (d : Nat) : Yk_ yX12_goesOn (K_X12_goesOn d) none 5 := ⟨(show Cond.code yX12_goesOn cX12_goesOn 7 none ∈ TB_t from tb_in (qt_6 (List.mem_of_getElem? (i := 231) rfl)) rfl), tb_in (qt_1 (List.mem_of_getElem? (i := 13) (by decide +kernel))) rfl, by decide +kernel, by decide +kernel, (show 7 ≤ 21 by decide)⟩
theorem yi_X12_goesOn : Yi_ yX12_goesOn := ⟨tb_in (qt_6 (List.mem_of_getElem? (i := 230) (by decide +kernel))) rfl, tb_in (qt_0 (List.mem_of_getElem? (i := 66) (by decide +kernel))) rfl⟩
abbrev K_X12_ask : KT_k := (cX12_ask, 5, RX12, 17)
theorem yk_X12_ask : Yk_ yX12_ask (K_X12_ask) (some .int) 2 := ⟨(show Cond.code yX12_ask cX12_ask 5 (some .int) ∈ TB_t from tb_in (qt_6 (List.mem_of_getElem? (i := 227) rfl)) rfl), tb_in (qt_1 (List.mem_of_getElem? (i := 13) (by decide +kernel))) rfl, by decide +kernel, by decide +kernel, (show 5 ≤ 21 by decide)⟩
theorem yi_X12_ask : Yi_ yX12_ask := ⟨tb_in (qt_6 (List.mem_of_getElem? (i := 225) (by decide +kernel))) rfl, tb_in (qt_6 (List.mem_of_getElem? (i := 226) (by decide +kernel))) rfl⟩
abbrev K_X12_who : KT_k := (cX12_who, 9, RX12, 2)
theorem yk_X12_who : Yk_ yX12_who (K_X12_who) (some .int) 2 := ⟨(show Cond.code yX12_who cX12_who 9 (some .int) ∈ TB_t from tb_in (qt_6 (List.mem_of_getElem? (i := 239) rfl)) rfl), tb_in (qt_1 (List.mem_of_getElem? (i := 13) (by decide +kernel))) rfl, by decide +kernel, by decide +kernel, (show 9 ≤ 21 by decide)⟩
theorem yi_X12_who : Yi_ yX12_who := ⟨tb_in (qt_6 (List.mem_of_getElem? (i := 237) (by decide +kernel))) rfl, tb_in (qt_6 (List.mem_of_getElem? (i := 238) (by decide +kernel))) rfl⟩
abbrev K_X12_noneFits : KT_k := (cX12_noneFits, 5, RX12, 4)
theorem yk_X12_noneFits : Yk_ yX12_noneFits (K_X12_noneFits) (some .boolean) 1 := ⟨(show Cond.code yX12_noneFits cX12_noneFits 5 (some .boolean) ∈ TB_t from tb_in (qt_7 (List.mem_of_getElem? (i := 7) rfl)) rfl), tb_in (qt_1 (List.mem_of_getElem? (i := 13) (by decide +kernel))) rfl, by decide +kernel, by decide +kernel, (show 5 ≤ 21 by decide)⟩
theorem yi_X12_noneFits : Yi_ yX12_noneFits := ⟨tb_in (qt_7 (List.mem_of_getElem? (i := 6) (by decide +kernel))) rfl, tb_in (qt_0 (List.mem_of_getElem? (i := 68) (by decide +kernel))) rfl⟩
abbrev K_X12_none : KT_k := (cX12_none, 8, RX12, 5)
theorem yk_X12_none : Yk_ yX12_none (K_X12_none) (some .int) 1 := ⟨(show Cond.code yX12_none cX12_none 8 (some .int) ∈ TB_t from tb_in (qt_7 (List.mem_of_getElem? (i := 3) rfl)) rfl), tb_in (qt_1 (List.mem_of_getElem? (i := 13) (by decide +kernel))) rfl, by decide +kernel, by decide +kernel, (show 8 ≤ 21 by decide)⟩
theorem yi_X12_none : Yi_ yX12_none := ⟨tb_in (qt_7 (List.mem_of_getElem? (i := 1) (by decide +kernel))) rfl, tb_in (qt_7 (List.mem_of_getElem? (i := 2) (by decide +kernel))) rfl⟩
abbrev K_X12_bits : KT_k := (cX12_bits, 3, RX12, 1)
theorem yk_X12_bits : Yk_ yX12_bits (K_X12_bits) (some .int) 1 := ⟨(show Cond.code yX12_bits cX12_bits 3 (some .int) ∈ TB_t from tb_in (qt_7 (List.mem_of_getElem? (i := 16) rfl)) rfl), tb_in (qt_1 (List.mem_of_getElem? (i := 13) (by decide +kernel))) rfl, by decide +kernel, by decide +kernel, (show 3 ≤ 21 by decide)⟩
theorem ys_X12_bits : Ys_ yX12_bits := tb_in (qt_7 (List.mem_of_getElem? (i := 15) (by decide +kernel))) rfl
abbrev K_X12_reader : KT_k := (cX12_reader, 6, RX12, 6)
theorem yk_X12_reader : Yk_ yX12_reader (K_X12_reader) (some .int) 3 := ⟨(show Cond.code yX12_reader cX12_reader 6 (some .int) ∈ TB_t from tb_in (qt_7 (List.mem_of_getElem? (i := 11) rfl)) rfl), tb_in (qt_1 (List.mem_of_getElem? (i := 13) (by decide +kernel))) rfl, by decide +kernel, by decide +kernel, (show 6 ≤ 21 by decide)⟩
theorem yi_X12_reader : Yi_ yX12_reader := ⟨tb_in (qt_7 (List.mem_of_getElem? (i := 9) (by decide +kernel))) rfl, tb_in (qt_7 (List.mem_of_getElem? (i := 10) (by decide +kernel))) rfl⟩
abbrev K_X12_word : KT_k := (cX12_word, 3, RX12, 1)
theorem yk_X12_word : Yk_ yX12_word (K_X12_word) (some .int) 2 := ⟨(show Cond.code yX12_word cX12_word 3 (some .int) ∈ TB_t from tb_in (qt_7 (List.mem_of_getElem? (i := 36) rfl)) rfl), tb_in (qt_1 (List.mem_of_getElem? (i := 13) (by decide +kernel))) rfl, by decide +kernel, by decide +kernel, (show 3 ≤ 21 by decide)⟩
theorem yi_X12_word : Yi_ yX12_word := ⟨tb_in (qt_7 (List.mem_of_getElem? (i := 35) (by decide +kernel))) rfl, tb_in (qt_0 (List.mem_of_getElem? (i := 71) (by decide +kernel))) rfl⟩
abbrev K_X12_neighbour : KT_k := (cX12_neighbour, 6, RX12, 5)
theorem yk_X12_neighbour : Yk_ yX12_neighbour (K_X12_neighbour) (some .int) 2 := ⟨(show Cond.code yX12_neighbour cX12_neighbour 6 (some .int) ∈ TB_t from tb_in (qt_7 (List.mem_of_getElem? (i := 20) rfl)) rfl), tb_in (qt_1 (List.mem_of_getElem? (i := 13) (by decide +kernel))) rfl, by decide +kernel, by decide +kernel, (show 6 ≤ 21 by decide)⟩
theorem yi_X12_neighbour : Yi_ yX12_neighbour := ⟨tb_in (qt_7 (List.mem_of_getElem? (i := 18) (by decide +kernel))) rfl, tb_in (qt_7 (List.mem_of_getElem? (i := 19) (by decide +kernel))) rfl⟩
abbrev K_X12_findLaws : KT_k := (cX12_findLaws, 6, RX12, 2)
theorem yk_X12_findLaws : Yk_ yX12_findLaws (K_X12_findLaws) none 0 := ⟨(show Cond.code yX12_findLaws cX12_findLaws 6 none ∈ TB_t from tb_in (qt_7 (List.mem_of_getElem? (i := 32) rfl)) rfl), tb_in (qt_1 (List.mem_of_getElem? (i := 13) (by decide +kernel))) rfl, by decide +kernel, by decide +kernel, (show 6 ≤ 21 by decide)⟩
theorem yi_X12_findLaws : Yi_ yX12_findLaws := ⟨tb_in (qt_7 (List.mem_of_getElem? (i := 31) (by decide +kernel))) rfl, tb_in (qt_0 (List.mem_of_getElem? (i := 70) (by decide +kernel))) rfl⟩
abbrev K_X12_asItIs : KT_k := (cX12_asItIs, 2, RX12, 3)
theorem yk_X12_asItIs : Yk_ yX12_asItIs (K_X12_asItIs) none 0 := ⟨(show Cond.code yX12_asItIs cX12_asItIs 2 none ∈ TB_t from tb_in (qt_7 (List.mem_of_getElem? (i := 28) rfl)) rfl), tb_in (qt_1 (List.mem_of_getElem? (i := 13) (by decide +kernel))) rfl, by decide +kernel, by decide +kernel, (show 2 ≤ 21 by decide)⟩
theorem yi_X12_asItIs : Yi_ yX12_asItIs := ⟨tb_in (qt_7 (List.mem_of_getElem? (i := 27) (by decide +kernel))) rfl, tb_in (qt_0 (List.mem_of_getElem? (i := 69) (by decide +kernel))) rfl⟩
abbrev K_X12_law : KT_k := (cX12_law, 2, RX12, 4)
theorem yk_X12_law : Yk_ yX12_law (K_X12_law) (some .int) 1 := ⟨(show Cond.code yX12_law cX12_law 2 (some .int) ∈ TB_t from tb_in (qt_7 (List.mem_of_getElem? (i := 24) rfl)) rfl), tb_in (qt_1 (List.mem_of_getElem? (i := 13) (by decide +kernel))) rfl, by decide +kernel, by decide +kernel, (show 2 ≤ 21 by decide)⟩
theorem yi_X12_law : Yi_ yX12_law := ⟨tb_in (qt_7 (List.mem_of_getElem? (i := 22) (by decide +kernel))) rfl, tb_in (qt_7 (List.mem_of_getElem? (i := 23) (by decide +kernel))) rfl⟩
abbrev K_X12_led : KT_k := (cX12_led, 2, RX12, 4)
theorem yk_X12_led : Yk_ yX12_led (K_X12_led) (some .int) 1 := ⟨(show Cond.code yX12_led cX12_led 2 (some .int) ∈ TB_t from tb_in (qt_7 (List.mem_of_getElem? (i := 40) rfl)) rfl), tb_in (qt_1 (List.mem_of_getElem? (i := 13) (by decide +kernel))) rfl, by decide +kernel, by decide +kernel, (show 2 ≤ 21 by decide)⟩
theorem yi_X12_led : Yi_ yX12_led := ⟨tb_in (qt_7 (List.mem_of_getElem? (i := 38) (by decide +kernel))) rfl, tb_in (qt_7 (List.mem_of_getElem? (i := 39) (by decide +kernel))) rfl⟩
abbrev K_X12_deals (d : Nat) : KT_k := (cX12_deals, 5, RX12, 3 + d)
theorem yk_X12_deals (d : Nat) : Yk_ yX12_deals (K_X12_deals d) none 3 := ⟨(show Cond.code yX12_deals cX12_deals 5 none ∈ TB_t from tb_in (qt_7 (List.mem_of_getElem? (i := 48) rfl)) rfl), tb_in (qt_1 (List.mem_of_getElem? (i := 13) (by decide +kernel))) rfl, by decide +kernel, by decide +kernel, (show 5 ≤ 21 by decide)⟩
theorem yi_X12_deals : Yi_ yX12_deals := ⟨tb_in (qt_7 (List.mem_of_getElem? (i := 47) (by decide +kernel))) rfl, tb_in (qt_0 (List.mem_of_getElem? (i := 72) (by decide +kernel))) rfl⟩
abbrev K_X12_odds : KT_k := (cX12_odds, 2, RX12, 16)
theorem yk_X12_odds : Yk_ yX12_odds (K_X12_odds) (some .int) 1 := ⟨(show Cond.code yX12_odds cX12_odds 2 (some .int) ∈ TB_t from tb_in (qt_7 (List.mem_of_getElem? (i := 44) rfl)) rfl), tb_in (qt_1 (List.mem_of_getElem? (i := 13) (by decide +kernel))) rfl, by decide +kernel, by decide +kernel, (show 2 ≤ 21 by decide)⟩
theorem yi_X12_odds : Yi_ yX12_odds := ⟨tb_in (qt_7 (List.mem_of_getElem? (i := 42) (by decide +kernel))) rfl, tb_in (qt_7 (List.mem_of_getElem? (i := 43) (by decide +kernel))) rfl⟩
abbrev K_X12_bar : KT_k := (cX12_bar, 5, RX12, 2)
theorem yk_X12_bar : Yk_ yX12_bar (K_X12_bar) (some .int) 2 := ⟨(show Cond.code yX12_bar cX12_bar 5 (some .int) ∈ TB_t from tb_in (qt_7 (List.mem_of_getElem? (i := 52) rfl)) rfl), tb_in (qt_1 (List.mem_of_getElem? (i := 13) (by decide +kernel))) rfl, by decide +kernel, by decide +kernel, (show 5 ≤ 21 by decide)⟩
theorem yi_X12_bar : Yi_ yX12_bar := ⟨tb_in (qt_7 (List.mem_of_getElem? (i := 50) (by decide +kernel))) rfl, tb_in (qt_7 (List.mem_of_getElem? (i := 51) (by decide +kernel))) rfl⟩
abbrev K_X12_takeBack : KT_k := (cX12_takeBack, 2, RX12, 3)
theorem yk_X12_takeBack : Yk_ yX12_takeBack (K_X12_takeBack) (some .int) 1 := ⟨(show Cond.code yX12_takeBack cX12_takeBack 2 (some .int) ∈ TB_t from tb_in (qt_7 (List.mem_of_getElem? (i := 56) rfl)) rfl), tb_in (qt_1 (List.mem_of_getElem? (i := 13) (by decide +kernel))) rfl, by decide +kernel, by decide +kernel, (show 2 ≤ 21 by decide)⟩
theorem yi_X12_takeBack : Yi_ yX12_takeBack := ⟨tb_in (qt_7 (List.mem_of_getElem? (i := 54) (by decide +kernel))) rfl, tb_in (qt_7 (List.mem_of_getElem? (i := 55) (by decide +kernel))) rfl⟩
abbrev K_X12_leaned : KT_k := (cX12_leaned, 4, RX12, 6)
theorem yk_X12_leaned : Yk_ yX12_leaned (K_X12_leaned) (some .int) 1 := ⟨(show Cond.code yX12_leaned cX12_leaned 4 (some .int) ∈ TB_t from tb_in (qt_7 (List.mem_of_getElem? (i := 60) rfl)) rfl), tb_in (qt_1 (List.mem_of_getElem? (i := 13) (by decide +kernel))) rfl, by decide +kernel, by decide +kernel, (show 4 ≤ 21 by decide)⟩
theorem yi_X12_leaned : Yi_ yX12_leaned := ⟨tb_in (qt_7 (List.mem_of_getElem? (i := 58) (by decide +kernel))) rfl, tb_in (qt_7 (List.mem_of_getElem? (i := 59) (by decide +kernel))) rfl⟩
abbrev K_X12_isAlike : KT_k := (cX12_isAlike, 3, RX12, 3)
theorem yk_X12_isAlike : Yk_ yX12_isAlike (K_X12_isAlike) (some .boolean) 2 := ⟨(show Cond.code yX12_isAlike cX12_isAlike 3 (some .boolean) ∈ TB_t from tb_in (qt_7 (List.mem_of_getElem? (i := 69) rfl)) rfl), tb_in (qt_1 (List.mem_of_getElem? (i := 13) (by decide +kernel))) rfl, by decide +kernel, by decide +kernel, (show 3 ≤ 21 by decide)⟩
theorem yi_X12_isAlike : Yi_ yX12_isAlike := ⟨tb_in (qt_7 (List.mem_of_getElem? (i := 68) (by decide +kernel))) rfl, tb_in (qt_0 (List.mem_of_getElem? (i := 73) (by decide +kernel))) rfl⟩
abbrev K_X12_weight : KT_k := (cX12_weight, 7, RX12, 4)
theorem yk_X12_weight : Yk_ yX12_weight (K_X12_weight) (some .int) 2 := ⟨(show Cond.code yX12_weight cX12_weight 7 (some .int) ∈ TB_t from tb_in (qt_7 (List.mem_of_getElem? (i := 65) rfl)) rfl), tb_in (qt_1 (List.mem_of_getElem? (i := 13) (by decide +kernel))) rfl, by decide +kernel, by decide +kernel, (show 7 ≤ 21 by decide)⟩
theorem yi_X12_weight : Yi_ yX12_weight := ⟨tb_in (qt_7 (List.mem_of_getElem? (i := 63) (by decide +kernel))) rfl, tb_in (qt_7 (List.mem_of_getElem? (i := 64) (by decide +kernel))) rfl⟩
abbrev K_X12_image : KT_k := (cX12_image, 2, RX12, 1)
theorem yk_X12_image : Yk_ yX12_image (K_X12_image) (some .int) 0 := ⟨(show Cond.code yX12_image cX12_image 2 (some .int) ∈ TB_t from tb_in (qt_7 (List.mem_of_getElem? (i := 73) rfl)) rfl), tb_in (qt_1 (List.mem_of_getElem? (i := 13) (by decide +kernel))) rfl, by decide +kernel, by decide +kernel, (show 2 ≤ 21 by decide)⟩
theorem yi_X12_image : Yi_ yX12_image := ⟨tb_in (qt_7 (List.mem_of_getElem? (i := 71) (by decide +kernel))) rfl, tb_in (qt_7 (List.mem_of_getElem? (i := 72) (by decide +kernel))) rfl⟩
abbrev K_X12_restore : KT_k := (cX12_restore, 2, RX12, 1)
theorem yk_X12_restore : Yk_ yX12_restore (K_X12_restore) (some .int) 0 := ⟨(show Cond.code yX12_restore cX12_restore 2 (some .int) ∈ TB_t from tb_in (qt_7 (List.mem_of_getElem? (i := 77) rfl)) rfl), tb_in (qt_1 (List.mem_of_getElem? (i := 13) (by decide +kernel))) rfl, by decide +kernel, by decide +kernel, (show 2 ≤ 21 by decide)⟩
theorem yi_X12_restore : Yi_ yX12_restore := ⟨tb_in (qt_7 (List.mem_of_getElem? (i := 75) (by decide +kernel))) rfl, tb_in (qt_7 (List.mem_of_getElem? (i := 76) (by decide +kernel))) rfl⟩
abbrev K_X12_count : KT_k := (cX12_count, 4, RX12, 6)
theorem yk_X12_count : Yk_ yX12_count (K_X12_count) (some .int) 1 := ⟨(show Cond.code yX12_count cX12_count 4 (some .int) ∈ TB_t from tb_in (qt_7 (List.mem_of_getElem? (i := 81) rfl)) rfl), tb_in (qt_1 (List.mem_of_getElem? (i := 13) (by decide +kernel))) rfl, by decide +kernel, by decide +kernel, (show 4 ≤ 21 by decide)⟩
theorem yi_X12_count : Yi_ yX12_count := ⟨tb_in (qt_7 (List.mem_of_getElem? (i := 79) (by decide +kernel))) rfl, tb_in (qt_7 (List.mem_of_getElem? (i := 80) (by decide +kernel))) rfl⟩
abbrev K_X12_keep : KT_k := (cX12_keep, 5, RX12, 3)
theorem yk_X12_keep : Yk_ yX12_keep (K_X12_keep) (some .int) 3 := ⟨(show Cond.code yX12_keep cX12_keep 5 (some .int) ∈ TB_t from tb_in (qt_7 (List.mem_of_getElem? (i := 85) rfl)) rfl), tb_in (qt_1 (List.mem_of_getElem? (i := 13) (by decide +kernel))) rfl, by decide +kernel, by decide +kernel, (show 5 ≤ 21 by decide)⟩
theorem yi_X12_keep : Yi_ yX12_keep := ⟨tb_in (qt_7 (List.mem_of_getElem? (i := 83) (by decide +kernel))) rfl, tb_in (qt_7 (List.mem_of_getElem? (i := 84) (by decide +kernel))) rfl⟩
abbrev K_X12_row : KT_k := (cX12_row, 5, RX12, 3)
theorem yk_X12_row : Yk_ yX12_row (K_X12_row) (some .int) 3 := ⟨(show Cond.code yX12_row cX12_row 5 (some .int) ∈ TB_t from tb_in (qt_7 (List.mem_of_getElem? (i := 89) rfl)) rfl), tb_in (qt_1 (List.mem_of_getElem? (i := 13) (by decide +kernel))) rfl, by decide +kernel, by decide +kernel, (show 5 ≤ 21 by decide)⟩
theorem yi_X12_row : Yi_ yX12_row := ⟨tb_in (qt_7 (List.mem_of_getElem? (i := 87) (by decide +kernel))) rfl, tb_in (qt_7 (List.mem_of_getElem? (i := 88) (by decide +kernel))) rfl⟩
abbrev K_X12_put : KT_k := (cX12_put, 5, RX12, 4)
theorem yk_X12_put : Yk_ yX12_put (K_X12_put) (some .int) 3 := ⟨(show Cond.code yX12_put cX12_put 5 (some .int) ∈ TB_t from tb_in (qt_7 (List.mem_of_getElem? (i := 94) rfl)) rfl), tb_in (qt_1 (List.mem_of_getElem? (i := 13) (by decide +kernel))) rfl, by decide +kernel, by decide +kernel, (show 5 ≤ 21 by decide)⟩
theorem yi_X12_put : Yi_ yX12_put := ⟨tb_in (qt_7 (List.mem_of_getElem? (i := 92) (by decide +kernel))) rfl, tb_in (qt_7 (List.mem_of_getElem? (i := 93) (by decide +kernel))) rfl⟩
abbrev K_X12_element : KT_k := (cX12_element, 3, RX12, 3)
theorem yk_X12_element : Yk_ yX12_element (K_X12_element) (some .long) 2 := ⟨(show Cond.code yX12_element cX12_element 3 (some .long) ∈ TB_t from tb_in (qt_7 (List.mem_of_getElem? (i := 98) rfl)) rfl), tb_in (qt_1 (List.mem_of_getElem? (i := 13) (by decide +kernel))) rfl, by decide +kernel, by decide +kernel, (show 3 ≤ 21 by decide)⟩
theorem yi_X12_element : Yi_ yX12_element := ⟨tb_in (qt_7 (List.mem_of_getElem? (i := 96) (by decide +kernel))) rfl, tb_in (qt_7 (List.mem_of_getElem? (i := 97) (by decide +kernel))) rfl⟩
abbrev K_X12_copy : KT_k := (cX12_copy, 8, RX12, 3)
theorem yk_X12_copy : Yk_ yX12_copy (K_X12_copy) (some .int) 5 := ⟨(show Cond.code yX12_copy cX12_copy 8 (some .int) ∈ TB_t from tb_in (qt_7 (List.mem_of_getElem? (i := 102) rfl)) rfl), tb_in (qt_1 (List.mem_of_getElem? (i := 13) (by decide +kernel))) rfl, by decide +kernel, by decide +kernel, (show 8 ≤ 21 by decide)⟩
theorem yi_X12_copy : Yi_ yX12_copy := ⟨tb_in (qt_7 (List.mem_of_getElem? (i := 100) (by decide +kernel))) rfl, tb_in (qt_7 (List.mem_of_getElem? (i := 101) (by decide +kernel))) rfl⟩
abbrev K_X12_wrongKept : KT_k := (cX12_wrongKept, 2, RX12, 3)
theorem yk_X12_wrongKept : Yk_ yX12_wrongKept (K_X12_wrongKept) (some .int) 1 := ⟨(show Cond.code yX12_wrongKept cX12_wrongKept 2 (some .int) ∈ TB_t from tb_in (qt_7 (List.mem_of_getElem? (i := 110) rfl)) rfl), tb_in (qt_1 (List.mem_of_getElem? (i := 13) (by decide +kernel))) rfl, by decide +kernel, by decide +kernel, (show 2 ≤ 21 by decide)⟩
theorem yi_X12_wrongKept : Yi_ yX12_wrongKept := ⟨tb_in (qt_7 (List.mem_of_getElem? (i := 109) (by decide +kernel))) rfl, tb_in (qt_0 (List.mem_of_getElem? (i := 74) (by decide +kernel))) rfl⟩
abbrev K_X12_length : KT_k := (cX12_length, 3, RX12, 4)
theorem yk_X12_length : Yk_ yX12_length (K_X12_length) (some .int) 1 := ⟨(show Cond.code yX12_length cX12_length 3 (some .int) ∈ TB_t from tb_in (qt_7 (List.mem_of_getElem? (i := 106) rfl)) rfl), tb_in (qt_1 (List.mem_of_getElem? (i := 13) (by decide +kernel))) rfl, by decide +kernel, by decide +kernel, (show 3 ≤ 21 by decide)⟩
theorem yi_X12_length : Yi_ yX12_length := ⟨tb_in (qt_7 (List.mem_of_getElem? (i := 104) (by decide +kernel))) rfl, tb_in (qt_7 (List.mem_of_getElem? (i := 105) (by decide +kernel))) rfl⟩
abbrev K_X12_toss : KT_k := (cX12_toss, 3, RX12, 4)
theorem yk_X12_toss : Yk_ yX12_toss (K_X12_toss) (some .int) 1 := ⟨(show Cond.code yX12_toss cX12_toss 3 (some .int) ∈ TB_t from tb_in (qt_7 (List.mem_of_getElem? (i := 114) rfl)) rfl), tb_in (qt_1 (List.mem_of_getElem? (i := 13) (by decide +kernel))) rfl, by decide +kernel, by decide +kernel, (show 3 ≤ 21 by decide)⟩
theorem yi_X12_toss : Yi_ yX12_toss := ⟨tb_in (qt_7 (List.mem_of_getElem? (i := 112) (by decide +kernel))) rfl, tb_in (qt_7 (List.mem_of_getElem? (i := 113) (by decide +kernel))) rfl⟩
