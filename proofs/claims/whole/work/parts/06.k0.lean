/-! ===== printed by wip/whole/gen/klem.py: a row an instruction ===== -/
theorem ab_retz {a b : Nat} {p q : Prop} (h : p ↔ 0 ≤ a ∧ 0 ≤ b ∧ q) : p ↔ q := h.trans ((ab_and_t (Nat.zero_le _)).trans (ab_and_t (Nat.zero_le _)))
theorem ab_ret1 {a b : Prop} {p q : Prop} {x : Int32} (h : p ↔ a ∧ b ∧ (1 = 1 ∨ (1 = 4 ∧ ab_bit x) ∨ (1 = 5 ∧ narrow .char (.int x) = .int x) ∨ (1 = 6 ∧ narrow .byte (.int x) = .int x)) ∧ q) : p ↔ a ∧ b ∧ q := h.trans (and_congr_right fun _ => and_congr_right fun _ => ab_and_t (Or.inl rfl))
theorem ab_ret4 {a b : Prop} {p q : Prop} {x : Int32} (h : p ↔ a ∧ b ∧ (4 = 1 ∨ (4 = 4 ∧ ab_bit x) ∨ (4 = 5 ∧ narrow .char (.int x) = .int x) ∨ (4 = 6 ∧ narrow .byte (.int x) = .int x)) ∧ q) : p ↔ a ∧ b ∧ ab_bit x ∧ q := h.trans (and_congr_right fun _ => and_congr_right fun _ => and_congr_left fun _ => ⟨fun z => by rcases z with z | z | z | z <;> first | exact z.2 | exact absurd z (by decide) | exact absurd z.1 (by decide), fun z => Or.inr (Or.inl ⟨rfl, z⟩)⟩)
theorem ab_ret5 {a b : Prop} {p q : Prop} {x : Int32} (h : p ↔ a ∧ b ∧ (5 = 1 ∨ (5 = 4 ∧ ab_bit x) ∨ (5 = 5 ∧ narrow .char (.int x) = .int x) ∨ (5 = 6 ∧ narrow .byte (.int x) = .int x)) ∧ q) : p ↔ a ∧ b ∧ narrow .char (.int x) = .int x ∧ q := h.trans (and_congr_right fun _ => and_congr_right fun _ => and_congr_left fun _ => ⟨fun z => by rcases z with z | z | z | z <;> first | exact absurd z (by decide) | exact absurd z.1 (by decide) | exact z.2, fun z => Or.inr (Or.inr (Or.inl ⟨rfl, z⟩))⟩)
theorem ab_ret6 {a b : Prop} {p q : Prop} {x : Int32} (h : p ↔ a ∧ b ∧ (6 = 1 ∨ (6 = 4 ∧ ab_bit x) ∨ (6 = 5 ∧ narrow .char (.int x) = .int x) ∨ (6 = 6 ∧ narrow .byte (.int x) = .int x)) ∧ q) : p ↔ a ∧ b ∧ narrow .byte (.int x) = .int x ∧ q := h.trans (and_congr_right fun _ => and_congr_right fun _ => and_congr_left fun _ => ⟨fun z => by rcases z with z | z | z | z <;> first | exact absurd z (by decide) | exact absurd z.1 (by decide) | exact z.2, fun z => Or.inr (Or.inr (Or.inr ⟨rfl, z⟩))⟩)
theorem ab_ret1z {a b : Nat} {p q : Prop} {x : Int32} (h : p ↔ 0 ≤ a ∧ 0 ≤ b ∧ (1 = 1 ∨ (1 = 4 ∧ ab_bit x) ∨ (1 = 5 ∧ narrow .char (.int x) = .int x) ∨ (1 = 6 ∧ narrow .byte (.int x) = .int x)) ∧ q) : p ↔ q := ab_retz (ab_ret1 h)
theorem ab_ret4z {a b : Nat} {p q : Prop} {x : Int32} (h : p ↔ 0 ≤ a ∧ 0 ≤ b ∧ (4 = 1 ∨ (4 = 4 ∧ ab_bit x) ∨ (4 = 5 ∧ narrow .char (.int x) = .int x) ∨ (4 = 6 ∧ narrow .byte (.int x) = .int x)) ∧ q) : p ↔ ab_bit x ∧ q := ab_retz (ab_ret4 h)
theorem ab_ret5z {a b : Nat} {p q : Prop} {x : Int32} (h : p ↔ 0 ≤ a ∧ 0 ≤ b ∧ (5 = 1 ∨ (5 = 4 ∧ ab_bit x) ∨ (5 = 5 ∧ narrow .char (.int x) = .int x) ∨ (5 = 6 ∧ narrow .byte (.int x) = .int x)) ∧ q) : p ↔ narrow .char (.int x) = .int x ∧ q := ab_retz (ab_ret5 h)
theorem ab_ret6z {a b : Nat} {p q : Prop} {x : Int32} (h : p ↔ 0 ≤ a ∧ 0 ≤ b ∧ (6 = 1 ∨ (6 = 4 ∧ ab_bit x) ∨ (6 = 5 ∧ narrow .char (.int x) = .int x) ∨ (6 = 6 ∧ narrow .byte (.int x) = .int x)) ∧ q) : p ↔ narrow .byte (.int x) = .int x ∧ q := ab_retz (ab_ret6 h)
theorem b0 : ab_bud 0 = (71, 14668) := rfl
theorem b1 : ab_bud 1 = (11, 65) := rfl
theorem b2 : ab_bud 2 = (1, 120) := rfl
theorem b3 : ab_bud 3 = (4, 483) := rfl
theorem b4 : ab_bud 4 = (5, 4216) := rfl
theorem b5 : ab_bud 5 = (4, 3075) := rfl
theorem b6 : ab_bud 6 = (10, 3206) := rfl
theorem b7 : ab_bud 7 = (2, 128) := rfl
theorem b8 : ab_bud 8 = (1, 40) := rfl
theorem b9 : ab_bud 9 = (0, 0) := rfl
theorem b10 : ab_bud 10 = (0, 0) := rfl
theorem b11 : ab_bud 11 = (0, 0) := rfl
theorem b12 : ab_bud 12 = (0, 0) := rfl
theorem b13 : ab_bud 13 = (0, 0) := rfl
theorem b14 : ab_bud 14 = (0, 0) := rfl
theorem b15 : ab_bud 15 = (0, 0) := rfl
theorem b16 : ab_bud 16 = (0, 0) := rfl
theorem b17 : ab_bud 17 = (0, 0) := rfl
theorem b18 : ab_bud 18 = (5, 244) := rfl
theorem b19 : ab_bud 19 = (5, 244) := rfl
theorem b20 : ab_bud 20 = (0, 0) := rfl
theorem b21 : ab_bud 21 = (0, 0) := rfl
theorem b22 : ab_bud 22 = (0, 0) := rfl
theorem b23 : ab_bud 23 = (0, 0) := rfl
theorem b24 : ab_bud 24 = (0, 0) := rfl
theorem b25 : ab_bud 25 = (0, 0) := rfl
theorem b26 : ab_bud 26 = (0, 0) := rfl
theorem b27 : ab_bud 27 = (0, 0) := rfl
theorem b28 : ab_bud 28 = (0, 0) := rfl
theorem b29 : ab_bud 29 = (0, 0) := rfl
theorem b30 : ab_bud 30 = (0, 0) := rfl
theorem b31 : ab_bud 31 = (0, 0) := rfl
theorem b32 : ab_bud 32 = (0, 0) := rfl
theorem b33 : ab_bud 33 = (0, 0) := rfl
theorem b34 : ab_bud 34 = (0, 0) := rfl
theorem b35 : ab_bud 35 = (0, 0) := rfl
theorem b36 : ab_bud 36 = (0, 0) := rfl
theorem b37 : ab_bud 37 = (0, 0) := rfl
theorem b38 : ab_bud 38 = (0, 0) := rfl
theorem b39 : ab_bud 39 = (0, 0) := rfl
theorem b40 : ab_bud 40 = (0, 0) := rfl
theorem b41 : ab_bud 41 = (0, 0) := rfl
theorem b42 : ab_bud 42 = (0, 0) := rfl
theorem b43 : ab_bud 43 = (2, 121) := rfl
theorem b44 : ab_bud 44 = (0, 0) := rfl
theorem b45 : ab_bud 45 = (0, 0) := rfl
theorem b46 : ab_bud 46 = (0, 0) := rfl
theorem b47 : ab_bud 47 = (0, 0) := rfl
theorem b48 : ab_bud 48 = (0, 0) := rfl
theorem b49 : ab_bud 49 = (1, 120) := rfl
theorem b50 : ab_bud 50 = (0, 0) := rfl
theorem b51 : ab_bud 51 = (0, 0) := rfl
theorem b52 : ab_bud 52 = (0, 0) := rfl
theorem b53 : ab_bud 53 = (0, 0) := rfl
theorem b54 : ab_bud 54 = (0, 0) := rfl
theorem b55 : ab_bud 55 = (0, 0) := rfl
theorem b56 : ab_bud 56 = (0, 0) := rfl
theorem b57 : ab_bud 57 = (0, 0) := rfl
theorem b58 : ab_bud 58 = (0, 0) := rfl
theorem b59 : ab_bud 59 = (0, 0) := rfl
theorem b60 : ab_bud 60 = (0, 0) := rfl
theorem b61 : ab_bud 61 = (0, 0) := rfl
theorem b62 : ab_bud 62 = (0, 0) := rfl
theorem b63 : ab_bud 63 = (0, 0) := rfl
theorem b64 : ab_bud 64 = (0, 0) := rfl
theorem b65 : ab_bud 65 = (3, 136) := rfl
theorem b66 : ab_bud 66 = (0, 0) := rfl
theorem b67 : ab_bud 67 = (0, 0) := rfl
theorem b68 : ab_bud 68 = (0, 0) := rfl
theorem b69 : ab_bud 69 = (0, 0) := rfl
theorem b70 : ab_bud 70 = (3, 136) := rfl
theorem b71 : ab_bud 71 = (0, 0) := rfl
theorem b72 : ab_bud 72 = (0, 0) := rfl
theorem b73 : ab_bud 73 = (5, 257) := rfl
theorem b74 : ab_bud 74 = (2, 121) := rfl
theorem b75 : ab_bud 75 = (0, 0) := rfl
theorem b76 : ab_bud 76 = (0, 0) := rfl
theorem b77 : ab_bud 77 = (0, 0) := rfl
theorem b78 : ab_bud 78 = (0, 0) := rfl
theorem b79 : ab_bud 79 = (0, 0) := rfl
theorem b80 : ab_bud 80 = (0, 0) := rfl
theorem b81 : ab_bud 81 = (0, 0) := rfl
theorem b82 : ab_bud 82 = (0, 0) := rfl
theorem b83 : ab_bud 83 = (0, 0) := rfl
theorem b84 : ab_bud 84 = (0, 0) := rfl
theorem b85 : ab_bud 85 = (0, 0) := rfl
theorem b86 : ab_bud 86 = (0, 0) := rfl
theorem b87 : ab_bud 87 = (0, 0) := rfl
theorem b88 : ab_bud 88 = (0, 0) := rfl
theorem b89 : ab_bud 89 = (0, 0) := rfl
theorem b90 : ab_bud 90 = (0, 0) := rfl
theorem b91 : ab_bud 91 = (0, 0) := rfl
theorem b92 : ab_bud 92 = (0, 0) := rfl
theorem b93 : ab_bud 93 = (0, 0) := rfl
theorem b94 : ab_bud 94 = (0, 0) := rfl
theorem b95 : ab_bud 95 = (0, 0) := rfl
theorem b96 : ab_bud 96 = (0, 0) := rfl
theorem b97 : ab_bud 97 = (0, 0) := rfl
theorem b98 : ab_bud 98 = (0, 0) := rfl
theorem b99 : ab_bud 99 = (0, 0) := rfl
theorem b100 : ab_bud 100 = (0, 0) := rfl
theorem b101 : ab_bud 101 = (0, 0) := rfl
theorem b102 : ab_bud 102 = (0, 0) := rfl
theorem b103 : ab_bud 103 = (0, 0) := rfl
theorem b104 : ab_bud 104 = (0, 0) := rfl
theorem b105 : ab_bud 105 = (0, 0) := rfl
theorem b106 : ab_bud 106 = (0, 0) := rfl
theorem b107 : ab_bud 107 = (0, 0) := rfl
theorem b108 : ab_bud 108 = (0, 0) := rfl
theorem b109 : ab_bud 109 = (0, 0) := rfl
theorem b110 : ab_bud 110 = (0, 0) := rfl
theorem b111 : ab_bud 111 = (0, 0) := rfl
theorem b112 : ab_bud 112 = (0, 0) := rfl
theorem b113 : ab_bud 113 = (0, 0) := rfl
theorem b114 : ab_bud 114 = (0, 0) := rfl
theorem b115 : ab_bud 115 = (0, 0) := rfl
theorem b116 : ab_bud 116 = (0, 0) := rfl
theorem b117 : ab_bud 117 = (0, 0) := rfl
theorem b118 : ab_bud 118 = (0, 0) := rfl
theorem b119 : ab_bud 119 = (0, 0) := rfl
theorem b120 : ab_bud 120 = (0, 0) := rfl
theorem b121 : ab_bud 121 = (0, 0) := rfl
theorem b122 : ab_bud 122 = (0, 0) := rfl
theorem b123 : ab_bud 123 = (0, 0) := rfl
theorem b124 : ab_bud 124 = (0, 0) := rfl
theorem b125 : ab_bud 125 = (0, 0) := rfl
theorem b126 : ab_bud 126 = (0, 0) := rfl
theorem b127 : ab_bud 127 = (0, 0) := rfl
theorem b128 : ab_bud 128 = (0, 0) := rfl
theorem b129 : ab_bud 129 = (0, 0) := rfl
theorem b130 : ab_bud 130 = (0, 0) := rfl
theorem b131 : ab_bud 131 = (0, 0) := rfl
theorem b132 : ab_bud 132 = (0, 0) := rfl
theorem b133 : ab_bud 133 = (0, 0) := rfl
theorem b134 : ab_bud 134 = (0, 0) := rfl
theorem b135 : ab_bud 135 = (0, 0) := rfl
theorem b136 : ab_bud 136 = (0, 0) := rfl
theorem b137 : ab_bud 137 = (0, 0) := rfl
theorem b138 : ab_bud 138 = (0, 0) := rfl
theorem b139 : ab_bud 139 = (0, 0) := rfl
theorem b140 : ab_bud 140 = (0, 0) := rfl
theorem b141 : ab_bud 141 = (0, 0) := rfl
theorem b142 : ab_bud 142 = (0, 0) := rfl
theorem b143 : ab_bud 143 = (0, 0) := rfl
theorem b144 : ab_bud 144 = (0, 0) := rfl
theorem b145 : ab_bud 145 = (0, 0) := rfl
theorem b146 : ab_bud 146 = (0, 0) := rfl
theorem b147 : ab_bud 147 = (0, 0) := rfl
theorem b148 : ab_bud 148 = (0, 0) := rfl
theorem b149 : ab_bud 149 = (0, 0) := rfl
theorem b150 : ab_bud 150 = (0, 0) := rfl
theorem b151 : ab_bud 151 = (0, 0) := rfl
theorem b152 : ab_bud 152 = (0, 0) := rfl
theorem b153 : ab_bud 153 = (26, 11690) := rfl
theorem b154 : ab_bud 154 = (0, 0) := rfl
theorem b155 : ab_bud 155 = (0, 0) := rfl
theorem b156 : ab_bud 156 = (0, 0) := rfl
theorem b157 : ab_bud 157 = (0, 0) := rfl
theorem b158 : ab_bud 158 = (0, 0) := rfl
theorem b159 : ab_bud 159 = (0, 0) := rfl
theorem b160 : ab_bud 160 = (0, 0) := rfl
theorem b161 : ab_bud 161 = (0, 0) := rfl
theorem b162 : ab_bud 162 = (0, 0) := rfl
theorem b163 : ab_bud 163 = (0, 0) := rfl
theorem b164 : ab_bud 164 = (0, 0) := rfl
theorem b165 : ab_bud 165 = (0, 0) := rfl
theorem b166 : ab_bud 166 = (0, 0) := rfl
theorem b167 : ab_bud 167 = (0, 0) := rfl
theorem b168 : ab_bud 168 = (0, 0) := rfl
theorem b169 : ab_bud 169 = (0, 0) := rfl
theorem b170 : ab_bud 170 = (0, 0) := rfl
theorem b171 : ab_bud 171 = (0, 0) := rfl
theorem b172 : ab_bud 172 = (0, 0) := rfl
theorem b173 : ab_bud 173 = (0, 0) := rfl
theorem b174 : ab_bud 174 = (0, 0) := rfl
theorem b175 : ab_bud 175 = (0, 0) := rfl
theorem b176 : ab_bud 176 = (0, 0) := rfl
theorem b177 : ab_bud 177 = (0, 0) := rfl
theorem b178 : ab_bud 178 = (0, 0) := rfl
theorem b179 : ab_bud 179 = (0, 0) := rfl
theorem b180 : ab_bud 180 = (0, 0) := rfl
theorem b181 : ab_bud 181 = (0, 0) := rfl
theorem b182 : ab_bud 182 = (0, 0) := rfl
theorem b183 : ab_bud 183 = (0, 0) := rfl
theorem b184 : ab_bud 184 = (0, 0) := rfl
theorem b185 : ab_bud 185 = (0, 0) := rfl
theorem b186 : ab_bud 186 = (0, 0) := rfl
theorem b187 : ab_bud 187 = (0, 0) := rfl
theorem b188 : ab_bud 188 = (0, 0) := rfl
theorem b189 : ab_bud 189 = (0, 0) := rfl
theorem b190 : ab_bud 190 = (0, 0) := rfl
theorem b191 : ab_bud 191 = (0, 0) := rfl
theorem b192 : ab_bud 192 = (0, 0) := rfl
theorem b193 : ab_bud 193 = (0, 0) := rfl
theorem b194 : ab_bud 194 = (0, 0) := rfl
theorem b195 : ab_bud 195 = (0, 0) := rfl
theorem b196 : ab_bud 196 = (0, 0) := rfl
theorem b197 : ab_bud 197 = (0, 0) := rfl
theorem b198 : ab_bud 198 = (0, 0) := rfl
theorem b199 : ab_bud 199 = (0, 0) := rfl
theorem b200 : ab_bud 200 = (0, 0) := rfl
theorem b201 : ab_bud 201 = (0, 0) := rfl
theorem b202 : ab_bud 202 = (0, 0) := rfl
theorem b203 : ab_bud 203 = (0, 0) := rfl
theorem b204 : ab_bud 204 = (0, 0) := rfl
theorem b205 : ab_bud 205 = (0, 0) := rfl
theorem b206 : ab_bud 206 = (0, 0) := rfl
theorem b207 : ab_bud 207 = (0, 0) := rfl
theorem b208 : ab_bud 208 = (0, 0) := rfl
theorem b209 : ab_bud 209 = (0, 0) := rfl
theorem b210 : ab_bud 210 = (0, 0) := rfl
theorem b211 : ab_bud 211 = (0, 0) := rfl
theorem b212 : ab_bud 212 = (0, 0) := rfl
theorem b213 : ab_bud 213 = (0, 0) := rfl
theorem b214 : ab_bud 214 = (0, 0) := rfl
theorem b215 : ab_bud 215 = (0, 0) := rfl
theorem b216 : ab_bud 216 = (0, 0) := rfl
theorem b217 : ab_bud 217 = (0, 0) := rfl
theorem b218 : ab_bud 218 = (0, 0) := rfl
theorem b219 : ab_bud 219 = (0, 0) := rfl
theorem b220 : ab_bud 220 = (0, 0) := rfl
theorem b221 : ab_bud 221 = (0, 0) := rfl
theorem b222 : ab_bud 222 = (0, 0) := rfl
theorem b223 : ab_bud 223 = (0, 0) := rfl
theorem b224 : ab_bud 224 = (0, 0) := rfl
theorem b225 : ab_bud 225 = (0, 0) := rfl
theorem b226 : ab_bud 226 = (0, 0) := rfl
theorem b227 : ab_bud 227 = (0, 0) := rfl
theorem b228 : ab_bud 228 = (0, 0) := rfl
theorem b229 : ab_bud 229 = (0, 0) := rfl
theorem b230 : ab_bud 230 = (0, 0) := rfl
theorem b231 : ab_bud 231 = (0, 0) := rfl
theorem b232 : ab_bud 232 = (0, 0) := rfl
theorem b233 : ab_bud 233 = (0, 0) := rfl
theorem b234 : ab_bud 234 = (0, 0) := rfl
theorem b235 : ab_bud 235 = (0, 0) := rfl
theorem b236 : ab_bud 236 = (0, 0) := rfl
theorem b237 : ab_bud 237 = (0, 0) := rfl
theorem b238 : ab_bud 238 = (0, 0) := rfl
theorem b239 : ab_bud 239 = (0, 0) := rfl
theorem b240 : ab_bud 240 = (0, 0) := rfl
theorem b241 : ab_bud 241 = (0, 0) := rfl
theorem b242 : ab_bud 242 = (0, 0) := rfl
theorem b243 : ab_bud 243 = (0, 0) := rfl
theorem b244 : ab_bud 244 = (0, 0) := rfl
theorem b245 : ab_bud 245 = (0, 0) := rfl
theorem b246 : ab_bud 246 = (0, 0) := rfl
theorem b247 : ab_bud 247 = (0, 0) := rfl
theorem b248 : ab_bud 248 = (0, 0) := rfl
theorem b249 : ab_bud 249 = (0, 0) := rfl
theorem b250 : ab_bud 250 = (0, 0) := rfl
theorem b251 : ab_bud 251 = (0, 0) := rfl
theorem b252 : ab_bud 252 = (0, 0) := rfl
theorem b253 : ab_bud 253 = (0, 0) := rfl
theorem b254 : ab_bud 254 = (0, 0) := rfl
theorem b255 : ab_bud 255 = (0, 0) := rfl
theorem b256 : ab_bud 256 = (0, 0) := rfl
theorem b257 : ab_bud 257 = (0, 0) := rfl
theorem b258 : ab_bud 258 = (0, 0) := rfl
theorem b259 : ab_bud 259 = (600000, 7302249) := rfl
theorem m26 : ab_cdm 26 = cd_String_length := rfl
theorem r26 : ab_rt (ab_meth 26).2.2.2.1 = 1 := rfl
theorem e26 {d : Nat} {a0 : Option Nat} {g : ab_G} {I : ab_I} {J : ab_J} {Q : ab_Q} : ab_run (d + 1) 26 [vR a0] g I J Q ↔ ab_E d 26 0 [some (vR a0)] [] 0 0 g I J Q := ab_run_ent (by decide) rfl (Nat.le_of_ble_eq_true rfl) rfl
theorem k26_0 {d : Nat} {L : ab_L} {st : List ab_V} {g : ab_G} {I : ab_I} {J : ab_J} {Q : ab_Q} {x : Option Nat} : ab_E d 26 0 (some (vR x) :: L) st 0 0 g I J Q ↔ ab_E d 26 1 (some (vR x) :: L) (vR x :: st) 0 0 g I J Q := ke_aload_n m26 (show ab_find cd_String_length 0 = some (0, .aload_n 0, 1, 0, 0, []) from rfl) rfl
theorem k26_1 {d : Nat} {L : ab_L} {st : List ab_V} {g : ab_G} {I : ab_I} {J : ab_J} {Q : ab_Q} {a : Nat} : ab_E d 26 1 L (vR (some a) :: st) 0 0 g I J Q ↔ ab_ty g a = 22 ∧ ab_E d 26 4 L (vR (ab_R g a 0) :: st) 0 0 g I J Q := ke_getR m26 (show ab_find cd_String_length 1 = some (1, .getfield 9, 3, 12, 0, [2, 1526, 1, 0]) from rfl)
theorem k26_4 {d : Nat} {L : ab_L} {st : List ab_V} {g : ab_G} {I : ab_I} {J : ab_J} {Q : ab_Q} {a : Nat} : ab_E d 26 4 L (vR (some a) :: st) 0 0 g I J Q ↔ 0 < ab_ty g a ∧ ab_ty g a < 10 ∧ ab_E d 26 5 L (vI (nI (ab_ln g a)) :: st) 0 0 g I J Q := ke_arraylength m26 (show ab_find cd_String_length 4 = some (4, .arraylength, 1, 0, 0, []) from rfl)
theorem k26_5 {d : Nat} {L : ab_L} {st : List ab_V} {g : ab_G} {I : ab_I} {J : ab_J} {Q : ab_Q} {x : Option Nat} : ab_E d 26 5 (some (vR x) :: L) st 0 0 g I J Q ↔ ab_E d 26 6 (some (vR x) :: L) (vR x :: st) 0 0 g I J Q := ke_aload_n m26 (show ab_find cd_String_length 5 = some (5, .aload_n 0, 1, 0, 0, []) from rfl) rfl
theorem k26_6 {d : Nat} {L : ab_L} {g : ab_G} {I : ab_I} {J : ab_J} {Q : ab_Q} {z0 : Int32} {b : Nat} : ab_E d 26 6 L (vR (some b) :: [vI z0]) 0 0 g I J Q ↔ ab_ty g b = 22 ∧ ab_run d 27 [vR (some b)] g I J (fun r g I J => ab_E d 26 9 L (ab_push r [vI z0]) 0 0 g I J Q) := (ke_virtual m26 (show ab_find cd_String_length 6 = some (6, .invokevirtual 335, 3, 27, 0, [0, 384, 12]) from rfl) ⟨Nat.le_of_ble_eq_true rfl, rfl, rfl⟩ b26 b27 (Nat.le_of_ble_eq_true rfl)).trans (and_congr_right fun _ => (ab_and_t (Nat.le_refl _)).trans (ab_and_t (Nat.le_refl _)))
theorem k26_9 {d : Nat} {L : ab_L} {st : List ab_V} {g : ab_G} {I : ab_I} {J : ab_J} {Q : ab_Q} {x y : Int32} : ab_E d 26 9 L (vI y :: vI x :: st) 0 0 g I J Q ↔ ab_E d 26 10 L (vI (x >>> (y &&& 31)) :: st) 0 0 g I J Q := ke_ishr m26 (show ab_find cd_String_length 9 = some (9, .ishr, 1, 0, 0, []) from rfl)
theorem k26_10 {d : Nat} {L : ab_L} {g : ab_G} {I : ab_I} {J : ab_J} {Q : ab_Q} {x : Int32} : ab_E d 26 10 L [vI x] 0 0 g I J Q ↔ Q (some (vI x)) g I J := ab_ret1z (ke_iret m26 (show ab_find cd_String_length 10 = some (10, .ireturn, 1, 0, 0, []) from rfl) b26 r26)
theorem m27 : ab_cdm 27 = cd_String_coder := rfl
theorem r27 : ab_rt (ab_meth 27).2.2.2.1 = 6 := rfl
theorem e27 {d : Nat} {a0 : Option Nat} {g : ab_G} {I : ab_I} {J : ab_J} {Q : ab_Q} : ab_run (d + 1) 27 [vR a0] g I J Q ↔ ab_E d 27 0 [some (vR a0)] [] 0 0 g I J Q := ab_run_ent (by decide) rfl (Nat.le_of_ble_eq_true rfl) rfl
theorem k27_0 {d : Nat} {L : ab_L} {st : List ab_V} {g : ab_G} {I : ab_I} {J : ab_J} {Q : ab_Q} : ab_E d 27 0 L st 0 0 g I J Q ↔ ab_E d 27 3 L (vI (nI 1) :: st) 0 0 g I J Q := ke_gets1 m27 (show ab_find cd_String_coder 0 = some (0, .getstatic 38, 3, 1, 0, [1, 388, 0]) from rfl)
theorem k27_3 {d : Nat} {L : ab_L} {st : List ab_V} {g : ab_G} {I : ab_I} {J : ab_J} {Q : ab_Q} {x : Int32} : ab_E d 27 3 L (vI x :: st) 0 0 g I J Q ↔ if x = 0 then ab_E d 27 13 L st 0 0 g I J Q else ab_E d 27 6 L st 0 0 g I J Q := ke_if_eq m27 (show ab_find cd_String_coder 3 = some (3, .ifCond .eq 10, 3, 13, 0, []) from rfl)
theorem k27_6 {d : Nat} {L : ab_L} {st : List ab_V} {g : ab_G} {I : ab_I} {J : ab_J} {Q : ab_Q} {x : Option Nat} : ab_E d 27 6 (some (vR x) :: L) st 0 0 g I J Q ↔ ab_E d 27 7 (some (vR x) :: L) (vR x :: st) 0 0 g I J Q := ke_aload_n m27 (show ab_find cd_String_coder 6 = some (6, .aload_n 0, 1, 0, 0, []) from rfl) rfl
theorem k27_7 {d : Nat} {L : ab_L} {st : List ab_V} {g : ab_G} {I : ab_I} {J : ab_J} {Q : ab_Q} {a : Nat} : ab_E d 27 7 L (vR (some a) :: st) 0 0 g I J Q ↔ ab_ty g a = 22 ∧ ab_E d 27 10 L (vI (I a 1) :: st) 0 0 g I J Q := ke_getI m27 (show ab_find cd_String_coder 7 = some (7, .getfield 15, 3, 12, 1, [0, 1527, 1, 0]) from rfl)
theorem k27_10 {d : Nat} {L : ab_L} {st : List ab_V} {g : ab_G} {I : ab_I} {J : ab_J} {Q : ab_Q} : ab_E d 27 10 L st 0 0 g I J Q ↔ ab_E d 27 14 L st 0 0 g I J Q := ke_goto m27 (show ab_find cd_String_coder 10 = some (10, .goto 4, 3, 14, 0, []) from rfl)
theorem k27_13 {d : Nat} {L : ab_L} {st : List ab_V} {g : ab_G} {I : ab_I} {J : ab_J} {Q : ab_Q} : ab_E d 27 13 L st 0 0 g I J Q ↔ ab_E d 27 14 L (vI 1 :: st) 0 0 g I J Q := ke_iconst m27 (show ab_find cd_String_coder 13 = some (13, .iconst 1, 1, 0, 0, []) from rfl) rfl
theorem k27_14 {d : Nat} {L : ab_L} {g : ab_G} {I : ab_I} {J : ab_J} {Q : ab_Q} {x : Int32} : ab_E d 27 14 L [vI x] 0 0 g I J Q ↔ narrow .byte (.int x) = .int x ∧ Q (some (vI x)) g I J := ab_ret6z (ke_iret m27 (show ab_find cd_String_coder 14 = some (14, .ireturn, 1, 0, 0, []) from rfl) b27 r27)
theorem m28 : ab_cdm 28 = cd_String_charAt := rfl
theorem r28 : ab_rt (ab_meth 28).2.2.2.1 = 5 := rfl
theorem e28 {d : Nat} {a0 : Option Nat} {a1 : Int32} {g : ab_G} {I : ab_I} {J : ab_J} {Q : ab_Q} : ab_run (d + 1) 28 [vR a0, vI a1] g I J Q ↔ ab_E d 28 0 [some (vR a0), some (vI a1)] [] 0 0 g I J Q := ab_run_ent (by decide) rfl (Nat.le_of_ble_eq_true rfl) rfl
theorem k28_0 {d : Nat} {L : ab_L} {st : List ab_V} {g : ab_G} {I : ab_I} {J : ab_J} {Q : ab_Q} {x : Option Nat} : ab_E d 28 0 (some (vR x) :: L) st 0 0 g I J Q ↔ ab_E d 28 1 (some (vR x) :: L) (vR x :: st) 0 0 g I J Q := ke_aload_n m28 (show ab_find cd_String_charAt 0 = some (0, .aload_n 0, 1, 0, 0, []) from rfl) rfl
theorem k28_1 {d : Nat} {L : ab_L} {g : ab_G} {I : ab_I} {J : ab_J} {Q : ab_Q} {b : Nat} : ab_E d 28 1 L (vR (some b) :: []) 0 0 g I J Q ↔ ab_ty g b = 22 ∧ ab_run d 29 [vR (some b)] g I J (fun r g I J => ab_E d 28 4 L (ab_push r []) 0 0 g I J Q) := (ke_virtual m28 (show ab_find cd_String_charAt 1 = some (1, .invokevirtual 492, 3, 29, 0, [0, 394, 12]) from rfl) ⟨Nat.le_of_ble_eq_true rfl, rfl, rfl⟩ b28 b29 (Nat.le_of_ble_eq_true rfl)).trans (and_congr_right fun _ => (ab_and_t (Nat.le_refl _)).trans (ab_and_t (Nat.le_refl _)))
theorem k28_4 {d : Nat} {L : ab_L} {st : List ab_V} {g : ab_G} {I : ab_I} {J : ab_J} {Q : ab_Q} {x : Int32} : ab_E d 28 4 L (vI x :: st) 0 0 g I J Q ↔ if x = 0 then ab_E d 28 16 L st 0 0 g I J Q else ab_E d 28 7 L st 0 0 g I J Q := ke_if_eq m28 (show ab_find cd_String_charAt 4 = some (4, .ifCond .eq 12, 3, 16, 0, []) from rfl)
theorem k28_7 {d : Nat} {L : ab_L} {st : List ab_V} {g : ab_G} {I : ab_I} {J : ab_J} {Q : ab_Q} {x : Option Nat} : ab_E d 28 7 (some (vR x) :: L) st 0 0 g I J Q ↔ ab_E d 28 8 (some (vR x) :: L) (vR x :: st) 0 0 g I J Q := ke_aload_n m28 (show ab_find cd_String_charAt 7 = some (7, .aload_n 0, 1, 0, 0, []) from rfl) rfl
theorem k28_8 {d : Nat} {L : ab_L} {st : List ab_V} {g : ab_G} {I : ab_I} {J : ab_J} {Q : ab_Q} {a : Nat} : ab_E d 28 8 L (vR (some a) :: st) 0 0 g I J Q ↔ ab_ty g a = 22 ∧ ab_E d 28 11 L (vR (ab_R g a 0) :: st) 0 0 g I J Q := ke_getR m28 (show ab_find cd_String_charAt 8 = some (8, .getfield 9, 3, 12, 0, [2, 1526, 1, 0]) from rfl)
theorem k28_11 {d : Nat} {L : ab_L} {st : List ab_V} {g : ab_G} {I : ab_I} {J : ab_J} {Q : ab_Q} {x : Int32} {l0 : Option ab_V} : ab_E d 28 11 (l0 :: some (vI x) :: L) st 0 0 g I J Q ↔ ab_E d 28 12 (l0 :: some (vI x) :: L) (vI x :: st) 0 0 g I J Q := ke_iload_n m28 (show ab_find cd_String_charAt 11 = some (11, .iload_n 1, 1, 0, 0, []) from rfl) rfl
theorem k28_12 {d : Nat} {L : ab_L} {g : ab_G} {I : ab_I} {J : ab_J} {Q : ab_Q} {a0 : Option Nat} {a1 : Int32} : ab_E d 28 12 L (vI a1 :: vR a0 :: []) 0 0 g I J Q ↔ ab_run d 30 [vR a0, vI a1] g I J (fun r g I J => ab_E d 28 15 L (ab_push r []) 0 0 g I J Q) := (ke_static m28 (show ab_find cd_String_charAt 12 = some (12, .invokestatic 495, 3, 30, 2, [0, 398]) from rfl) (by decide) ⟨Nat.le_of_ble_eq_true rfl, rfl, rfl⟩ b28 b30 (Nat.le_of_ble_eq_true rfl)).trans ((ab_and_t (Nat.le_refl _)).trans (ab_and_t (Nat.le_refl _)))
theorem k28_15 {d : Nat} {L : ab_L} {g : ab_G} {I : ab_I} {J : ab_J} {Q : ab_Q} {x : Int32} : ab_E d 28 15 L [vI x] 0 0 g I J Q ↔ narrow .char (.int x) = .int x ∧ Q (some (vI x)) g I J := ab_ret5z (ke_iret m28 (show ab_find cd_String_charAt 15 = some (15, .ireturn, 1, 0, 0, []) from rfl) b28 r28)
theorem k28_16 {d : Nat} {L : ab_L} {st : List ab_V} {g : ab_G} {I : ab_I} {J : ab_J} {Q : ab_Q} {x : Option Nat} : ab_E d 28 16 (some (vR x) :: L) st 0 0 g I J Q ↔ ab_E d 28 17 (some (vR x) :: L) (vR x :: st) 0 0 g I J Q := ke_aload_n m28 (show ab_find cd_String_charAt 16 = some (16, .aload_n 0, 1, 0, 0, []) from rfl) rfl
theorem k28_17 {d : Nat} {L : ab_L} {st : List ab_V} {g : ab_G} {I : ab_I} {J : ab_J} {Q : ab_Q} {a : Nat} : ab_E d 28 17 L (vR (some a) :: st) 0 0 g I J Q ↔ ab_ty g a = 22 ∧ ab_E d 28 20 L (vR (ab_R g a 0) :: st) 0 0 g I J Q := ke_getR m28 (show ab_find cd_String_charAt 17 = some (17, .getfield 9, 3, 12, 0, [2, 1526, 1, 0]) from rfl)
theorem k28_20 {d : Nat} {L : ab_L} {st : List ab_V} {g : ab_G} {I : ab_I} {J : ab_J} {Q : ab_Q} {x : Int32} {l0 : Option ab_V} : ab_E d 28 20 (l0 :: some (vI x) :: L) st 0 0 g I J Q ↔ ab_E d 28 21 (l0 :: some (vI x) :: L) (vI x :: st) 0 0 g I J Q := ke_iload_n m28 (show ab_find cd_String_charAt 20 = some (20, .iload_n 1, 1, 0, 0, []) from rfl) rfl
theorem m29 : ab_cdm 29 = cd_String_isLatin1 := rfl
theorem r29 : ab_rt (ab_meth 29).2.2.2.1 = 4 := rfl
theorem e29 {d : Nat} {a0 : Option Nat} {g : ab_G} {I : ab_I} {J : ab_J} {Q : ab_Q} : ab_run (d + 1) 29 [vR a0] g I J Q ↔ ab_E d 29 0 [some (vR a0)] [] 0 0 g I J Q := ab_run_ent (by decide) rfl (Nat.le_of_ble_eq_true rfl) rfl
theorem k29_0 {d : Nat} {L : ab_L} {st : List ab_V} {g : ab_G} {I : ab_I} {J : ab_J} {Q : ab_Q} : ab_E d 29 0 L st 0 0 g I J Q ↔ ab_E d 29 3 L (vI (nI 1) :: st) 0 0 g I J Q := ke_gets1 m29 (show ab_find cd_String_isLatin1 0 = some (0, .getstatic 38, 3, 1, 0, [1, 388, 0]) from rfl)
theorem k29_3 {d : Nat} {L : ab_L} {st : List ab_V} {g : ab_G} {I : ab_I} {J : ab_J} {Q : ab_Q} {x : Int32} : ab_E d 29 3 L (vI x :: st) 0 0 g I J Q ↔ if x = 0 then ab_E d 29 17 L st 0 0 g I J Q else ab_E d 29 6 L st 0 0 g I J Q := ke_if_eq m29 (show ab_find cd_String_isLatin1 3 = some (3, .ifCond .eq 14, 3, 17, 0, []) from rfl)
theorem k29_6 {d : Nat} {L : ab_L} {st : List ab_V} {g : ab_G} {I : ab_I} {J : ab_J} {Q : ab_Q} {x : Option Nat} : ab_E d 29 6 (some (vR x) :: L) st 0 0 g I J Q ↔ ab_E d 29 7 (some (vR x) :: L) (vR x :: st) 0 0 g I J Q := ke_aload_n m29 (show ab_find cd_String_isLatin1 6 = some (6, .aload_n 0, 1, 0, 0, []) from rfl) rfl
theorem k29_7 {d : Nat} {L : ab_L} {st : List ab_V} {g : ab_G} {I : ab_I} {J : ab_J} {Q : ab_Q} {a : Nat} : ab_E d 29 7 L (vR (some a) :: st) 0 0 g I J Q ↔ ab_ty g a = 22 ∧ ab_E d 29 10 L (vI (I a 1) :: st) 0 0 g I J Q := ke_getI m29 (show ab_find cd_String_isLatin1 7 = some (7, .getfield 15, 3, 12, 1, [0, 1527, 1, 0]) from rfl)
theorem k29_10 {d : Nat} {L : ab_L} {st : List ab_V} {g : ab_G} {I : ab_I} {J : ab_J} {Q : ab_Q} {x : Int32} : ab_E d 29 10 L (vI x :: st) 0 0 g I J Q ↔ if x = 0 then ab_E d 29 13 L st 0 0 g I J Q else ab_E d 29 17 L st 0 0 g I J Q := ke_if_ne m29 (show ab_find cd_String_isLatin1 10 = some (10, .ifCond .ne 7, 3, 17, 0, []) from rfl)
theorem k29_13 {d : Nat} {L : ab_L} {st : List ab_V} {g : ab_G} {I : ab_I} {J : ab_J} {Q : ab_Q} : ab_E d 29 13 L st 0 0 g I J Q ↔ ab_E d 29 14 L (vI 1 :: st) 0 0 g I J Q := ke_iconst m29 (show ab_find cd_String_isLatin1 13 = some (13, .iconst 1, 1, 0, 0, []) from rfl) rfl
theorem k29_14 {d : Nat} {L : ab_L} {st : List ab_V} {g : ab_G} {I : ab_I} {J : ab_J} {Q : ab_Q} : ab_E d 29 14 L st 0 0 g I J Q ↔ ab_E d 29 18 L st 0 0 g I J Q := ke_goto m29 (show ab_find cd_String_isLatin1 14 = some (14, .goto 4, 3, 18, 0, []) from rfl)
theorem k29_17 {d : Nat} {L : ab_L} {st : List ab_V} {g : ab_G} {I : ab_I} {J : ab_J} {Q : ab_Q} : ab_E d 29 17 L st 0 0 g I J Q ↔ ab_E d 29 18 L (vI 0 :: st) 0 0 g I J Q := ke_iconst m29 (show ab_find cd_String_isLatin1 17 = some (17, .iconst 0, 1, 0, 0, []) from rfl) rfl
theorem k29_18 {d : Nat} {L : ab_L} {g : ab_G} {I : ab_I} {J : ab_J} {Q : ab_Q} {x : Int32} : ab_E d 29 18 L [vI x] 0 0 g I J Q ↔ ab_bit x ∧ Q (some (vI x)) g I J := ab_ret4z (ke_iret m29 (show ab_find cd_String_isLatin1 18 = some (18, .ireturn, 1, 0, 0, []) from rfl) b29 r29)
theorem m30 : ab_cdm 30 = cd_Latin_charAt := rfl
theorem r30 : ab_rt (ab_meth 30).2.2.2.1 = 5 := rfl
theorem e30 {d : Nat} {a0 : Option Nat} {a1 : Int32} {g : ab_G} {I : ab_I} {J : ab_J} {Q : ab_Q} : ab_run (d + 1) 30 [vR a0, vI a1] g I J Q ↔ ab_E d 30 0 [some (vR a0), some (vI a1)] [] 0 0 g I J Q := ab_run_ent (by decide) rfl (Nat.le_of_ble_eq_true rfl) rfl
theorem k30_0 {d : Nat} {L : ab_L} {st : List ab_V} {g : ab_G} {I : ab_I} {J : ab_J} {Q : ab_Q} {x : Int32} {l0 : Option ab_V} : ab_E d 30 0 (l0 :: some (vI x) :: L) st 0 0 g I J Q ↔ ab_E d 30 1 (l0 :: some (vI x) :: L) (vI x :: st) 0 0 g I J Q := ke_iload_n m30 (show ab_find cd_Latin_charAt 0 = some (0, .iload_n 1, 1, 0, 0, []) from rfl) rfl
theorem k30_1 {d : Nat} {L : ab_L} {st : List ab_V} {g : ab_G} {I : ab_I} {J : ab_J} {Q : ab_Q} {x : Option Nat} : ab_E d 30 1 (some (vR x) :: L) st 0 0 g I J Q ↔ ab_E d 30 2 (some (vR x) :: L) (vR x :: st) 0 0 g I J Q := ke_aload_n m30 (show ab_find cd_Latin_charAt 1 = some (1, .aload_n 0, 1, 0, 0, []) from rfl) rfl
theorem k30_2 {d : Nat} {L : ab_L} {st : List ab_V} {g : ab_G} {I : ab_I} {J : ab_J} {Q : ab_Q} {a : Nat} : ab_E d 30 2 L (vR (some a) :: st) 0 0 g I J Q ↔ 0 < ab_ty g a ∧ ab_ty g a < 10 ∧ ab_E d 30 3 L (vI (nI (ab_ln g a)) :: st) 0 0 g I J Q := ke_arraylength m30 (show ab_find cd_Latin_charAt 2 = some (2, .arraylength, 1, 0, 0, []) from rfl)
theorem k30_3 {d : Nat} {L : ab_L} {g : ab_G} {I : ab_I} {J : ab_J} {Q : ab_Q} {a0 : Int32} {a1 : Int32} : ab_E d 30 3 L (vI a1 :: vI a0 :: []) 0 0 g I J Q ↔ ab_run d 31 [vI a0, vI a1] g I J (fun r g I J => ab_E d 30 6 L (ab_push r []) 0 0 g I J Q) := (ke_static m30 (show ab_find cd_Latin_charAt 3 = some (3, .invokestatic 9, 3, 31, 2, [0, 401]) from rfl) (by decide) ⟨Nat.le_of_ble_eq_true rfl, rfl, rfl⟩ b30 b31 (Nat.le_of_ble_eq_true rfl)).trans ((ab_and_t (Nat.le_refl _)).trans (ab_and_t (Nat.le_refl _)))
theorem k30_6 {d : Nat} {L : ab_L} {st : List ab_V} {g : ab_G} {I : ab_I} {J : ab_J} {Q : ab_Q} {x : Option Nat} : ab_E d 30 6 (some (vR x) :: L) st 0 0 g I J Q ↔ ab_E d 30 7 (some (vR x) :: L) (vR x :: st) 0 0 g I J Q := ke_aload_n m30 (show ab_find cd_Latin_charAt 6 = some (6, .aload_n 0, 1, 0, 0, []) from rfl) rfl
theorem k30_7 {d : Nat} {L : ab_L} {st : List ab_V} {g : ab_G} {I : ab_I} {J : ab_J} {Q : ab_Q} {x : Int32} {l0 : Option ab_V} : ab_E d 30 7 (l0 :: some (vI x) :: L) st 0 0 g I J Q ↔ ab_E d 30 8 (l0 :: some (vI x) :: L) (vI x :: st) 0 0 g I J Q := ke_iload_n m30 (show ab_find cd_Latin_charAt 7 = some (7, .iload_n 1, 1, 0, 0, []) from rfl) rfl
theorem k30_8 {d : Nat} {L : ab_L} {st : List ab_V} {g : ab_G} {I : ab_I} {J : ab_J} {Q : ab_Q} {a : Nat} {j : Int32} : ab_E d 30 8 L (vI j :: vR (some a) :: st) 0 0 g I J Q ↔ ab_ty g a = 7 ∧ vp_in j (ab_ln g a) ∧ ab_E d 30 9 L (vI (I a j.toNatClampNeg) :: st) 0 0 g I J Q := ke_baload m30 (show ab_find cd_Latin_charAt 8 = some (8, .baload, 1, 0, 0, []) from rfl)
theorem k30_9 {d : Nat} {L : ab_L} {st : List ab_V} {g : ab_G} {I : ab_I} {J : ab_J} {Q : ab_Q} : ab_E d 30 9 L st 0 0 g I J Q ↔ ab_E d 30 12 L (vI 255 :: st) 0 0 g I J Q := ke_sipush m30 (show ab_find cd_Latin_charAt 9 = some (9, .sipush 255, 3, 0, 0, []) from rfl) rfl
theorem k30_12 {d : Nat} {L : ab_L} {st : List ab_V} {g : ab_G} {I : ab_I} {J : ab_J} {Q : ab_Q} {x y : Int32} : ab_E d 30 12 L (vI y :: vI x :: st) 0 0 g I J Q ↔ ab_E d 30 13 L (vI (x &&& y) :: st) 0 0 g I J Q := ke_iand m30 (show ab_find cd_Latin_charAt 12 = some (12, .iand, 1, 0, 0, []) from rfl)
theorem k30_13 {d : Nat} {L : ab_L} {st : List ab_V} {g : ab_G} {I : ab_I} {J : ab_J} {Q : ab_Q} {x : Int32} : ab_E d 30 13 L (vI x :: st) 0 0 g I J Q ↔ ab_E d 30 14 L (vI (x.toUInt32 % 65536).toInt32 :: st) 0 0 g I J Q := ke_i2c m30 (show ab_find cd_Latin_charAt 13 = some (13, .i2c, 1, 0, 0, []) from rfl)
theorem k30_14 {d : Nat} {L : ab_L} {g : ab_G} {I : ab_I} {J : ab_J} {Q : ab_Q} {x : Int32} : ab_E d 30 14 L [vI x] 0 0 g I J Q ↔ narrow .char (.int x) = .int x ∧ Q (some (vI x)) g I J := ab_ret5z (ke_iret m30 (show ab_find cd_Latin_charAt 14 = some (14, .ireturn, 1, 0, 0, []) from rfl) b30 r30)
theorem m31 : ab_cdm 31 = cd_String_checkIndex := rfl
theorem r31 : ab_rt (ab_meth 31).2.2.2.1 = 0 := rfl
theorem e31 {d : Nat} {a0 : Int32} {a1 : Int32} {g : ab_G} {I : ab_I} {J : ab_J} {Q : ab_Q} : ab_run (d + 1) 31 [vI a0, vI a1] g I J Q ↔ ab_E d 31 0 [some (vI a0), some (vI a1)] [] 0 0 g I J Q := ab_run_ent (by decide) rfl (Nat.le_of_ble_eq_true rfl) rfl
theorem k31_0 {d : Nat} {L : ab_L} {st : List ab_V} {g : ab_G} {I : ab_I} {J : ab_J} {Q : ab_Q} {x : Int32} : ab_E d 31 0 (some (vI x) :: L) st 0 0 g I J Q ↔ ab_E d 31 1 (some (vI x) :: L) (vI x :: st) 0 0 g I J Q := ke_iload_n m31 (show ab_find cd_String_checkIndex 0 = some (0, .iload_n 0, 1, 0, 0, []) from rfl) rfl
theorem k31_1 {d : Nat} {L : ab_L} {st : List ab_V} {g : ab_G} {I : ab_I} {J : ab_J} {Q : ab_Q} {x : Int32} {l0 : Option ab_V} : ab_E d 31 1 (l0 :: some (vI x) :: L) st 0 0 g I J Q ↔ ab_E d 31 2 (l0 :: some (vI x) :: L) (vI x :: st) 0 0 g I J Q := ke_iload_n m31 (show ab_find cd_String_checkIndex 1 = some (1, .iload_n 1, 1, 0, 0, []) from rfl) rfl
theorem k31_2 {d : Nat} {L : ab_L} {st : List ab_V} {g : ab_G} {I : ab_I} {J : ab_J} {Q : ab_Q} : ab_E d 31 2 L st 0 0 g I J Q ↔ ∀ o : Option Nat, ab_E d 31 5 L (vR o :: st) 0 0 g I J Q := ke_gets2 m31 (show ab_find cd_String_checkIndex 2 = some (2, .getstatic 1053, 3, 0, 0, [2, 404, 0]) from rfl)
theorem k31_5 {d : Nat} {L : ab_L} {g : ab_G} {I : ab_I} {J : ab_J} {Q : ab_Q} {a0 : Int32} {a1 : Int32} {a2 : Option Nat} : ab_E d 31 5 L (vR a2 :: vI a1 :: vI a0 :: []) 0 0 g I J Q ↔ ab_run d 32 [vI a0, vI a1, vR a2] g I J (fun r g I J => ab_E d 31 8 L (ab_push r []) 0 0 g I J Q) := (ke_static m31 (show ab_find cd_String_checkIndex 5 = some (5, .invokestatic 1059, 3, 32, 3, [0, 406]) from rfl) (by decide) ⟨Nat.le_of_ble_eq_true rfl, rfl, rfl⟩ b31 b32 (Nat.le_of_ble_eq_true rfl)).trans ((ab_and_t (Nat.le_refl _)).trans (ab_and_t (Nat.le_refl _)))
theorem k31_8 {d : Nat} {L : ab_L} {st : List ab_V} {g : ab_G} {I : ab_I} {J : ab_J} {Q : ab_Q} {x : Int32} : ab_E d 31 8 L (vI x :: st) 0 0 g I J Q ↔ ab_E d 31 9 L st 0 0 g I J Q := ke_pop m31 (show ab_find cd_String_checkIndex 8 = some (8, .pop, 1, 0, 0, []) from rfl) rfl
theorem k31_9 {d : Nat} {L : ab_L} {g : ab_G} {I : ab_I} {J : ab_J} {Q : ab_Q} : ab_E d 31 9 L [] 0 0 g I J Q ↔ Q none g I J := ab_retz (ke_vret m31 (show ab_find cd_String_checkIndex 9 = some (9, .return_, 1, 0, 0, []) from rfl) b31 r31)
theorem m32 : ab_cdm 32 = cd_Precon_checkIndex := rfl
theorem r32 : ab_rt (ab_meth 32).2.2.2.1 = 1 := rfl
theorem e32 {d : Nat} {a0 : Int32} {a1 : Int32} {a2 : Option Nat} {g : ab_G} {I : ab_I} {J : ab_J} {Q : ab_Q} : ab_run (d + 1) 32 [vI a0, vI a1, vR a2] g I J Q ↔ ab_E d 32 0 [some (vI a0), some (vI a1), some (vR a2)] [] 0 0 g I J Q := ab_run_ent (by decide) rfl (Nat.le_of_ble_eq_true rfl) rfl
theorem k32_0 {d : Nat} {L : ab_L} {st : List ab_V} {g : ab_G} {I : ab_I} {J : ab_J} {Q : ab_Q} {x : Int32} : ab_E d 32 0 (some (vI x) :: L) st 0 0 g I J Q ↔ ab_E d 32 1 (some (vI x) :: L) (vI x :: st) 0 0 g I J Q := ke_iload_n m32 (show ab_find cd_Precon_checkIndex 0 = some (0, .iload_n 0, 1, 0, 0, []) from rfl) rfl
theorem k32_1 {d : Nat} {L : ab_L} {st : List ab_V} {g : ab_G} {I : ab_I} {J : ab_J} {Q : ab_Q} {x : Int32} : ab_E d 32 1 L (vI x :: st) 0 0 g I J Q ↔ if x < 0 then ab_E d 32 9 L st 0 0 g I J Q else ab_E d 32 4 L st 0 0 g I J Q := ke_if_lt m32 (show ab_find cd_Precon_checkIndex 1 = some (1, .ifCond .lt 8, 3, 9, 0, []) from rfl)
theorem k32_4 {d : Nat} {L : ab_L} {st : List ab_V} {g : ab_G} {I : ab_I} {J : ab_J} {Q : ab_Q} {x : Int32} : ab_E d 32 4 (some (vI x) :: L) st 0 0 g I J Q ↔ ab_E d 32 5 (some (vI x) :: L) (vI x :: st) 0 0 g I J Q := ke_iload_n m32 (show ab_find cd_Precon_checkIndex 4 = some (4, .iload_n 0, 1, 0, 0, []) from rfl) rfl
theorem k32_5 {d : Nat} {L : ab_L} {st : List ab_V} {g : ab_G} {I : ab_I} {J : ab_J} {Q : ab_Q} {x : Int32} {l0 : Option ab_V} : ab_E d 32 5 (l0 :: some (vI x) :: L) st 0 0 g I J Q ↔ ab_E d 32 6 (l0 :: some (vI x) :: L) (vI x :: st) 0 0 g I J Q := ke_iload_n m32 (show ab_find cd_Precon_checkIndex 5 = some (5, .iload_n 1, 1, 0, 0, []) from rfl) rfl
theorem k32_6 {d : Nat} {L : ab_L} {st : List ab_V} {g : ab_G} {I : ab_I} {J : ab_J} {Q : ab_Q} {x y : Int32} : ab_E d 32 6 L (vI y :: vI x :: st) 0 0 g I J Q ↔ if x < y then ab_E d 32 16 L st 0 0 g I J Q else ab_E d 32 9 L st 0 0 g I J Q := ke_icmp_lt m32 (show ab_find cd_Precon_checkIndex 6 = some (6, .if_icmp .lt 10, 3, 16, 0, []) from rfl)
theorem k32_9 {d : Nat} {L : ab_L} {st : List ab_V} {g : ab_G} {I : ab_I} {J : ab_J} {Q : ab_Q} {x : Option Nat} {l0 l1 : Option ab_V} : ab_E d 32 9 (l0 :: l1 :: some (vR x) :: L) st 0 0 g I J Q ↔ ab_E d 32 10 (l0 :: l1 :: some (vR x) :: L) (vR x :: st) 0 0 g I J Q := ke_aload_n m32 (show ab_find cd_Precon_checkIndex 9 = some (9, .aload_n 2, 1, 0, 0, []) from rfl) rfl
theorem k32_10 {d : Nat} {L : ab_L} {st : List ab_V} {g : ab_G} {I : ab_I} {J : ab_J} {Q : ab_Q} {x : Int32} : ab_E d 32 10 (some (vI x) :: L) st 0 0 g I J Q ↔ ab_E d 32 11 (some (vI x) :: L) (vI x :: st) 0 0 g I J Q := ke_iload_n m32 (show ab_find cd_Precon_checkIndex 10 = some (10, .iload_n 0, 1, 0, 0, []) from rfl) rfl
theorem k32_11 {d : Nat} {L : ab_L} {st : List ab_V} {g : ab_G} {I : ab_I} {J : ab_J} {Q : ab_Q} {x : Int32} {l0 : Option ab_V} : ab_E d 32 11 (l0 :: some (vI x) :: L) st 0 0 g I J Q ↔ ab_E d 32 12 (l0 :: some (vI x) :: L) (vI x :: st) 0 0 g I J Q := ke_iload_n m32 (show ab_find cd_Precon_checkIndex 11 = some (11, .iload_n 1, 1, 0, 0, []) from rfl) rfl
theorem k32_16 {d : Nat} {L : ab_L} {st : List ab_V} {g : ab_G} {I : ab_I} {J : ab_J} {Q : ab_Q} {x : Int32} : ab_E d 32 16 (some (vI x) :: L) st 0 0 g I J Q ↔ ab_E d 32 17 (some (vI x) :: L) (vI x :: st) 0 0 g I J Q := ke_iload_n m32 (show ab_find cd_Precon_checkIndex 16 = some (16, .iload_n 0, 1, 0, 0, []) from rfl) rfl
theorem k32_17 {d : Nat} {L : ab_L} {g : ab_G} {I : ab_I} {J : ab_J} {Q : ab_Q} {x : Int32} : ab_E d 32 17 L [vI x] 0 0 g I J Q ↔ Q (some (vI x)) g I J := ab_ret1z (ke_iret m32 (show ab_find cd_Precon_checkIndex 17 = some (17, .ireturn, 1, 0, 0, []) from rfl) b32 r32)
theorem m35 : ab_cdm 35 = cd_Math_min := rfl
theorem r35 : ab_rt (ab_meth 35).2.2.2.1 = 1 := rfl
theorem e35 {d : Nat} {a0 : Int32} {a1 : Int32} {g : ab_G} {I : ab_I} {J : ab_J} {Q : ab_Q} : ab_run (d + 1) 35 [vI a0, vI a1] g I J Q ↔ ab_E d 35 0 [some (vI a0), some (vI a1)] [] 0 0 g I J Q := ab_run_ent (by decide) rfl (Nat.le_of_ble_eq_true rfl) rfl
theorem k35_0 {d : Nat} {L : ab_L} {st : List ab_V} {g : ab_G} {I : ab_I} {J : ab_J} {Q : ab_Q} {x : Int32} : ab_E d 35 0 (some (vI x) :: L) st 0 0 g I J Q ↔ ab_E d 35 1 (some (vI x) :: L) (vI x :: st) 0 0 g I J Q := ke_iload_n m35 (show ab_find cd_Math_min 0 = some (0, .iload_n 0, 1, 0, 0, []) from rfl) rfl
theorem k35_1 {d : Nat} {L : ab_L} {st : List ab_V} {g : ab_G} {I : ab_I} {J : ab_J} {Q : ab_Q} {x : Int32} {l0 : Option ab_V} : ab_E d 35 1 (l0 :: some (vI x) :: L) st 0 0 g I J Q ↔ ab_E d 35 2 (l0 :: some (vI x) :: L) (vI x :: st) 0 0 g I J Q := ke_iload_n m35 (show ab_find cd_Math_min 1 = some (1, .iload_n 1, 1, 0, 0, []) from rfl) rfl
theorem k35_2 {d : Nat} {L : ab_L} {st : List ab_V} {g : ab_G} {I : ab_I} {J : ab_J} {Q : ab_Q} {x y : Int32} : ab_E d 35 2 L (vI y :: vI x :: st) 0 0 g I J Q ↔ if y < x then ab_E d 35 9 L st 0 0 g I J Q else ab_E d 35 5 L st 0 0 g I J Q := ke_icmp_gt m35 (show ab_find cd_Math_min 2 = some (2, .if_icmp .gt 7, 3, 9, 0, []) from rfl)
theorem k35_5 {d : Nat} {L : ab_L} {st : List ab_V} {g : ab_G} {I : ab_I} {J : ab_J} {Q : ab_Q} {x : Int32} : ab_E d 35 5 (some (vI x) :: L) st 0 0 g I J Q ↔ ab_E d 35 6 (some (vI x) :: L) (vI x :: st) 0 0 g I J Q := ke_iload_n m35 (show ab_find cd_Math_min 5 = some (5, .iload_n 0, 1, 0, 0, []) from rfl) rfl
theorem k35_6 {d : Nat} {L : ab_L} {st : List ab_V} {g : ab_G} {I : ab_I} {J : ab_J} {Q : ab_Q} : ab_E d 35 6 L st 0 0 g I J Q ↔ ab_E d 35 10 L st 0 0 g I J Q := ke_goto m35 (show ab_find cd_Math_min 6 = some (6, .goto 4, 3, 10, 0, []) from rfl)
theorem k35_9 {d : Nat} {L : ab_L} {st : List ab_V} {g : ab_G} {I : ab_I} {J : ab_J} {Q : ab_Q} {x : Int32} {l0 : Option ab_V} : ab_E d 35 9 (l0 :: some (vI x) :: L) st 0 0 g I J Q ↔ ab_E d 35 10 (l0 :: some (vI x) :: L) (vI x :: st) 0 0 g I J Q := ke_iload_n m35 (show ab_find cd_Math_min 9 = some (9, .iload_n 1, 1, 0, 0, []) from rfl) rfl
theorem k35_10 {d : Nat} {L : ab_L} {g : ab_G} {I : ab_I} {J : ab_J} {Q : ab_Q} {x : Int32} : ab_E d 35 10 L [vI x] 0 0 g I J Q ↔ Q (some (vI x)) g I J := ab_ret1z (ke_iret m35 (show ab_find cd_Math_min 10 = some (10, .ireturn, 1, 0, 0, []) from rfl) b35 r35)
theorem m36 : ab_cdm 36 = cd_String_indexOf := rfl
theorem r36 : ab_rt (ab_meth 36).2.2.2.1 = 1 := rfl
theorem e36 {d : Nat} {a0 : Option Nat} {a1 : Int32} {g : ab_G} {I : ab_I} {J : ab_J} {Q : ab_Q} : ab_run (d + 1) 36 [vR a0, vI a1] g I J Q ↔ ab_E d 36 0 [some (vR a0), some (vI a1)] [] 0 0 g I J Q := ab_run_ent (by decide) rfl (Nat.le_of_ble_eq_true rfl) rfl
theorem k36_0 {d : Nat} {L : ab_L} {st : List ab_V} {g : ab_G} {I : ab_I} {J : ab_J} {Q : ab_Q} {x : Option Nat} : ab_E d 36 0 (some (vR x) :: L) st 0 0 g I J Q ↔ ab_E d 36 1 (some (vR x) :: L) (vR x :: st) 0 0 g I J Q := ke_aload_n m36 (show ab_find cd_String_indexOf 0 = some (0, .aload_n 0, 1, 0, 0, []) from rfl) rfl
theorem k36_1 {d : Nat} {L : ab_L} {st : List ab_V} {g : ab_G} {I : ab_I} {J : ab_J} {Q : ab_Q} {x : Int32} {l0 : Option ab_V} : ab_E d 36 1 (l0 :: some (vI x) :: L) st 0 0 g I J Q ↔ ab_E d 36 2 (l0 :: some (vI x) :: L) (vI x :: st) 0 0 g I J Q := ke_iload_n m36 (show ab_find cd_String_indexOf 1 = some (1, .iload_n 1, 1, 0, 0, []) from rfl) rfl
theorem k36_2 {d : Nat} {L : ab_L} {st : List ab_V} {g : ab_G} {I : ab_I} {J : ab_J} {Q : ab_Q} : ab_E d 36 2 L st 0 0 g I J Q ↔ ab_E d 36 3 L (vI 0 :: st) 0 0 g I J Q := ke_iconst m36 (show ab_find cd_String_indexOf 2 = some (2, .iconst 0, 1, 0, 0, []) from rfl) rfl
theorem k36_3 {d : Nat} {L : ab_L} {g : ab_G} {I : ab_I} {J : ab_J} {Q : ab_Q} {a0 : Int32} {a1 : Int32} {b : Nat} : ab_E d 36 3 L (vI a1 :: vI a0 :: vR (some b) :: []) 0 0 g I J Q ↔ ab_ty g b = 22 ∧ ab_run d 37 [vR (some b), vI a0, vI a1] g I J (fun r g I J => ab_E d 36 6 L (ab_push r []) 0 0 g I J Q) := (ke_virtual m36 (show ab_find cd_String_indexOf 3 = some (3, .invokevirtual 633, 3, 37, 2, [0, 446, 12]) from rfl) ⟨Nat.le_of_ble_eq_true rfl, rfl, rfl⟩ b36 b37 (Nat.le_of_ble_eq_true rfl)).trans (and_congr_right fun _ => (ab_and_t (Nat.le_refl _)).trans (ab_and_t (Nat.le_refl _)))
theorem k36_6 {d : Nat} {L : ab_L} {g : ab_G} {I : ab_I} {J : ab_J} {Q : ab_Q} {x : Int32} : ab_E d 36 6 L [vI x] 0 0 g I J Q ↔ Q (some (vI x)) g I J := ab_ret1z (ke_iret m36 (show ab_find cd_String_indexOf 6 = some (6, .ireturn, 1, 0, 0, []) from rfl) b36 r36)
theorem m37 : ab_cdm 37 = cd_String_indexOf2 := rfl
theorem r37 : ab_rt (ab_meth 37).2.2.2.1 = 1 := rfl
theorem e37 {d : Nat} {a0 : Option Nat} {a1 : Int32} {a2 : Int32} {g : ab_G} {I : ab_I} {J : ab_J} {Q : ab_Q} : ab_run (d + 1) 37 [vR a0, vI a1, vI a2] g I J Q ↔ ab_E d 37 0 [some (vR a0), some (vI a1), some (vI a2)] [] 0 0 g I J Q := ab_run_ent (by decide) rfl (Nat.le_of_ble_eq_true rfl) rfl
theorem k37_0 {d : Nat} {L : ab_L} {st : List ab_V} {g : ab_G} {I : ab_I} {J : ab_J} {Q : ab_Q} {x : Option Nat} : ab_E d 37 0 (some (vR x) :: L) st 0 0 g I J Q ↔ ab_E d 37 1 (some (vR x) :: L) (vR x :: st) 0 0 g I J Q := ke_aload_n m37 (show ab_find cd_String_indexOf2 0 = some (0, .aload_n 0, 1, 0, 0, []) from rfl) rfl
theorem k37_1 {d : Nat} {L : ab_L} {g : ab_G} {I : ab_I} {J : ab_J} {Q : ab_Q} {b : Nat} : ab_E d 37 1 L (vR (some b) :: []) 0 0 g I J Q ↔ ab_ty g b = 22 ∧ ab_run d 29 [vR (some b)] g I J (fun r g I J => ab_E d 37 4 L (ab_push r []) 0 0 g I J Q) := (ke_virtual m37 (show ab_find cd_String_indexOf2 1 = some (1, .invokevirtual 492, 3, 29, 0, [0, 394, 12]) from rfl) ⟨Nat.le_of_ble_eq_true rfl, rfl, rfl⟩ b37 b29 (Nat.le_of_ble_eq_true rfl)).trans (and_congr_right fun _ => (ab_and_t (Nat.le_refl _)).trans (ab_and_t (Nat.le_refl _)))
theorem k37_4 {d : Nat} {L : ab_L} {st : List ab_V} {g : ab_G} {I : ab_I} {J : ab_J} {Q : ab_Q} {x : Int32} : ab_E d 37 4 L (vI x :: st) 0 0 g I J Q ↔ if x = 0 then ab_E d 37 23 L st 0 0 g I J Q else ab_E d 37 7 L st 0 0 g I J Q := ke_if_eq m37 (show ab_find cd_String_indexOf2 4 = some (4, .ifCond .eq 19, 3, 23, 0, []) from rfl)
theorem k37_7 {d : Nat} {L : ab_L} {st : List ab_V} {g : ab_G} {I : ab_I} {J : ab_J} {Q : ab_Q} {x : Option Nat} : ab_E d 37 7 (some (vR x) :: L) st 0 0 g I J Q ↔ ab_E d 37 8 (some (vR x) :: L) (vR x :: st) 0 0 g I J Q := ke_aload_n m37 (show ab_find cd_String_indexOf2 7 = some (7, .aload_n 0, 1, 0, 0, []) from rfl) rfl
theorem k37_8 {d : Nat} {L : ab_L} {st : List ab_V} {g : ab_G} {I : ab_I} {J : ab_J} {Q : ab_Q} {a : Nat} : ab_E d 37 8 L (vR (some a) :: st) 0 0 g I J Q ↔ ab_ty g a = 22 ∧ ab_E d 37 11 L (vR (ab_R g a 0) :: st) 0 0 g I J Q := ke_getR m37 (show ab_find cd_String_indexOf2 8 = some (8, .getfield 9, 3, 12, 0, [2, 1526, 1, 0]) from rfl)
theorem k37_11 {d : Nat} {L : ab_L} {st : List ab_V} {g : ab_G} {I : ab_I} {J : ab_J} {Q : ab_Q} {x : Int32} {l0 : Option ab_V} : ab_E d 37 11 (l0 :: some (vI x) :: L) st 0 0 g I J Q ↔ ab_E d 37 12 (l0 :: some (vI x) :: L) (vI x :: st) 0 0 g I J Q := ke_iload_n m37 (show ab_find cd_String_indexOf2 11 = some (11, .iload_n 1, 1, 0, 0, []) from rfl) rfl
theorem k37_12 {d : Nat} {L : ab_L} {st : List ab_V} {g : ab_G} {I : ab_I} {J : ab_J} {Q : ab_Q} {x : Int32} {l0 l1 : Option ab_V} : ab_E d 37 12 (l0 :: l1 :: some (vI x) :: L) st 0 0 g I J Q ↔ ab_E d 37 13 (l0 :: l1 :: some (vI x) :: L) (vI x :: st) 0 0 g I J Q := ke_iload_n m37 (show ab_find cd_String_indexOf2 12 = some (12, .iload_n 2, 1, 0, 0, []) from rfl) rfl
theorem k37_13 {d : Nat} {L : ab_L} {st : List ab_V} {g : ab_G} {I : ab_I} {J : ab_J} {Q : ab_Q} {x : Option Nat} : ab_E d 37 13 (some (vR x) :: L) st 0 0 g I J Q ↔ ab_E d 37 14 (some (vR x) :: L) (vR x :: st) 0 0 g I J Q := ke_aload_n m37 (show ab_find cd_String_indexOf2 13 = some (13, .aload_n 0, 1, 0, 0, []) from rfl) rfl
theorem k37_14 {d : Nat} {L : ab_L} {g : ab_G} {I : ab_I} {J : ab_J} {Q : ab_Q} {z0 : Int32} {z1 : Int32} {z2 : Option Nat} {b : Nat} : ab_E d 37 14 L (vR (some b) :: [vI z0, vI z1, vR z2]) 0 0 g I J Q ↔ ab_ty g b = 22 ∧ ab_run d 26 [vR (some b)] g I J (fun r g I J => ab_E d 37 17 L (ab_push r [vI z0, vI z1, vR z2]) 0 0 g I J Q) := (ke_virtual m37 (show ab_find cd_String_indexOf2 14 = some (14, .invokevirtual 505, 3, 26, 0, [0, 450, 12]) from rfl) ⟨Nat.le_of_ble_eq_true rfl, rfl, rfl⟩ b37 b26 (Nat.le_of_ble_eq_true rfl)).trans (and_congr_right fun _ => (ab_and_t (Nat.le_refl _)).trans (ab_and_t (Nat.le_refl _)))
theorem k37_17 {d : Nat} {L : ab_L} {g : ab_G} {I : ab_I} {J : ab_J} {Q : ab_Q} {a0 : Option Nat} {a1 : Int32} {a2 : Int32} {a3 : Int32} : ab_E d 37 17 L (vI a3 :: vI a2 :: vI a1 :: vR a0 :: []) 0 0 g I J Q ↔ ab_run d 38 [vR a0, vI a1, vI a2, vI a3] g I J (fun r g I J => ab_E d 37 20 L (ab_push r []) 0 0 g I J Q) := (ke_static m37 (show ab_find cd_String_indexOf2 17 = some (17, .invokestatic 637, 3, 38, 4, [0, 451]) from rfl) (by decide) ⟨Nat.le_of_ble_eq_true rfl, rfl, rfl⟩ b37 b38 (Nat.le_of_ble_eq_true rfl)).trans ((ab_and_t (Nat.le_refl _)).trans (ab_and_t (Nat.le_refl _)))
theorem k37_20 {d : Nat} {L : ab_L} {st : List ab_V} {g : ab_G} {I : ab_I} {J : ab_J} {Q : ab_Q} : ab_E d 37 20 L st 0 0 g I J Q ↔ ab_E d 37 36 L st 0 0 g I J Q := ke_goto m37 (show ab_find cd_String_indexOf2 20 = some (20, .goto 16, 3, 36, 0, []) from rfl)
theorem k37_23 {d : Nat} {L : ab_L} {st : List ab_V} {g : ab_G} {I : ab_I} {J : ab_J} {Q : ab_Q} {x : Option Nat} : ab_E d 37 23 (some (vR x) :: L) st 0 0 g I J Q ↔ ab_E d 37 24 (some (vR x) :: L) (vR x :: st) 0 0 g I J Q := ke_aload_n m37 (show ab_find cd_String_indexOf2 23 = some (23, .aload_n 0, 1, 0, 0, []) from rfl) rfl
theorem k37_24 {d : Nat} {L : ab_L} {st : List ab_V} {g : ab_G} {I : ab_I} {J : ab_J} {Q : ab_Q} {a : Nat} : ab_E d 37 24 L (vR (some a) :: st) 0 0 g I J Q ↔ ab_ty g a = 22 ∧ ab_E d 37 27 L (vR (ab_R g a 0) :: st) 0 0 g I J Q := ke_getR m37 (show ab_find cd_String_indexOf2 24 = some (24, .getfield 9, 3, 12, 0, [2, 1526, 1, 0]) from rfl)
theorem k37_27 {d : Nat} {L : ab_L} {st : List ab_V} {g : ab_G} {I : ab_I} {J : ab_J} {Q : ab_Q} {x : Int32} {l0 : Option ab_V} : ab_E d 37 27 (l0 :: some (vI x) :: L) st 0 0 g I J Q ↔ ab_E d 37 28 (l0 :: some (vI x) :: L) (vI x :: st) 0 0 g I J Q := ke_iload_n m37 (show ab_find cd_String_indexOf2 27 = some (27, .iload_n 1, 1, 0, 0, []) from rfl) rfl
theorem k37_28 {d : Nat} {L : ab_L} {st : List ab_V} {g : ab_G} {I : ab_I} {J : ab_J} {Q : ab_Q} {x : Int32} {l0 l1 : Option ab_V} : ab_E d 37 28 (l0 :: l1 :: some (vI x) :: L) st 0 0 g I J Q ↔ ab_E d 37 29 (l0 :: l1 :: some (vI x) :: L) (vI x :: st) 0 0 g I J Q := ke_iload_n m37 (show ab_find cd_String_indexOf2 28 = some (28, .iload_n 2, 1, 0, 0, []) from rfl) rfl
theorem k37_29 {d : Nat} {L : ab_L} {st : List ab_V} {g : ab_G} {I : ab_I} {J : ab_J} {Q : ab_Q} {x : Option Nat} : ab_E d 37 29 (some (vR x) :: L) st 0 0 g I J Q ↔ ab_E d 37 30 (some (vR x) :: L) (vR x :: st) 0 0 g I J Q := ke_aload_n m37 (show ab_find cd_String_indexOf2 29 = some (29, .aload_n 0, 1, 0, 0, []) from rfl) rfl
theorem k37_30 {d : Nat} {L : ab_L} {g : ab_G} {I : ab_I} {J : ab_J} {Q : ab_Q} {z0 : Int32} {z1 : Int32} {z2 : Option Nat} {b : Nat} : ab_E d 37 30 L (vR (some b) :: [vI z0, vI z1, vR z2]) 0 0 g I J Q ↔ ab_ty g b = 22 ∧ ab_run d 26 [vR (some b)] g I J (fun r g I J => ab_E d 37 33 L (ab_push r [vI z0, vI z1, vR z2]) 0 0 g I J Q) := (ke_virtual m37 (show ab_find cd_String_indexOf2 30 = some (30, .invokevirtual 505, 3, 26, 0, [0, 450, 12]) from rfl) ⟨Nat.le_of_ble_eq_true rfl, rfl, rfl⟩ b37 b26 (Nat.le_of_ble_eq_true rfl)).trans (and_congr_right fun _ => (ab_and_t (Nat.le_refl _)).trans (ab_and_t (Nat.le_refl _)))
theorem k37_36 {d : Nat} {L : ab_L} {g : ab_G} {I : ab_I} {J : ab_J} {Q : ab_Q} {x : Int32} : ab_E d 37 36 L [vI x] 0 0 g I J Q ↔ Q (some (vI x)) g I J := ab_ret1z (ke_iret m37 (show ab_find cd_String_indexOf2 36 = some (36, .ireturn, 1, 0, 0, []) from rfl) b37 r37)
theorem m38 : ab_cdm 38 = cd_Latin_indexOf := rfl
theorem r38 : ab_rt (ab_meth 38).2.2.2.1 = 1 := rfl
theorem e38 {d : Nat} {a0 : Option Nat} {a1 : Int32} {a2 : Int32} {a3 : Int32} {g : ab_G} {I : ab_I} {J : ab_J} {Q : ab_Q} : ab_run (d + 1) 38 [vR a0, vI a1, vI a2, vI a3] g I J Q ↔ ab_E d 38 0 [some (vR a0), some (vI a1), some (vI a2), some (vI a3)] [] 0 0 g I J Q := ab_run_ent (by decide) rfl (Nat.le_of_ble_eq_true rfl) rfl
theorem k38_0 {d : Nat} {L : ab_L} {st : List ab_V} {g : ab_G} {I : ab_I} {J : ab_J} {Q : ab_Q} {x : Int32} {l0 : Option ab_V} : ab_E d 38 0 (l0 :: some (vI x) :: L) st 0 0 g I J Q ↔ ab_E d 38 1 (l0 :: some (vI x) :: L) (vI x :: st) 0 0 g I J Q := ke_iload_n m38 (show ab_find cd_Latin_indexOf 0 = some (0, .iload_n 1, 1, 0, 0, []) from rfl) rfl
theorem k38_1 {d : Nat} {L : ab_L} {g : ab_G} {I : ab_I} {J : ab_J} {Q : ab_Q} {a0 : Int32} : ab_E d 38 1 L (vI a0 :: []) 0 0 g I J Q ↔ ab_run d 39 [vI a0] g I J (fun r g I J => ab_E d 38 4 L (ab_push r []) 0 0 g I J Q) := (ke_static m38 (show ab_find cd_Latin_indexOf 1 = some (1, .invokestatic 88, 3, 39, 1, [0, 454]) from rfl) (by decide) ⟨Nat.le_of_ble_eq_true rfl, rfl, rfl⟩ b38 b39 (Nat.le_of_ble_eq_true rfl)).trans ((ab_and_t (Nat.le_refl _)).trans (ab_and_t (Nat.le_refl _)))
theorem k38_4 {d : Nat} {L : ab_L} {st : List ab_V} {g : ab_G} {I : ab_I} {J : ab_J} {Q : ab_Q} {x : Int32} : ab_E d 38 4 L (vI x :: st) 0 0 g I J Q ↔ if x = 0 then ab_E d 38 7 L st 0 0 g I J Q else ab_E d 38 9 L st 0 0 g I J Q := ke_if_ne m38 (show ab_find cd_Latin_indexOf 4 = some (4, .ifCond .ne 5, 3, 9, 0, []) from rfl)
theorem k38_7 {d : Nat} {L : ab_L} {st : List ab_V} {g : ab_G} {I : ab_I} {J : ab_J} {Q : ab_Q} : ab_E d 38 7 L st 0 0 g I J Q ↔ ab_E d 38 8 L (vI (-1) :: st) 0 0 g I J Q := ke_iconst m38 (show ab_find cd_Latin_indexOf 7 = some (7, .iconst (-1), 1, 0, 0, []) from rfl) rfl
theorem k38_8 {d : Nat} {L : ab_L} {g : ab_G} {I : ab_I} {J : ab_J} {Q : ab_Q} {x : Int32} : ab_E d 38 8 L [vI x] 0 0 g I J Q ↔ Q (some (vI x)) g I J := ab_ret1z (ke_iret m38 (show ab_find cd_Latin_indexOf 8 = some (8, .ireturn, 1, 0, 0, []) from rfl) b38 r38)
theorem k38_9 {d : Nat} {L : ab_L} {st : List ab_V} {g : ab_G} {I : ab_I} {J : ab_J} {Q : ab_Q} {x : Int32} {l0 l1 : Option ab_V} : ab_E d 38 9 (l0 :: l1 :: some (vI x) :: L) st 0 0 g I J Q ↔ ab_E d 38 10 (l0 :: l1 :: some (vI x) :: L) (vI x :: st) 0 0 g I J Q := ke_iload_n m38 (show ab_find cd_Latin_indexOf 9 = some (9, .iload_n 2, 1, 0, 0, []) from rfl) rfl
theorem k38_10 {d : Nat} {L : ab_L} {st : List ab_V} {g : ab_G} {I : ab_I} {J : ab_J} {Q : ab_Q} : ab_E d 38 10 L st 0 0 g I J Q ↔ ab_E d 38 11 L (vI 0 :: st) 0 0 g I J Q := ke_iconst m38 (show ab_find cd_Latin_indexOf 10 = some (10, .iconst 0, 1, 0, 0, []) from rfl) rfl
theorem k38_11 {d : Nat} {L : ab_L} {g : ab_G} {I : ab_I} {J : ab_J} {Q : ab_Q} {a0 : Int32} {a1 : Int32} : ab_E d 38 11 L (vI a1 :: vI a0 :: []) 0 0 g I J Q ↔ ab_run d 40 [vI a0, vI a1] g I J (fun r g I J => ab_E d 38 14 L (ab_push r []) 0 0 g I J Q) := (ke_static m38 (show ab_find cd_Latin_indexOf 11 = some (11, .invokestatic 92, 3, 40, 2, [0, 457]) from rfl) (by decide) ⟨Nat.le_of_ble_eq_true rfl, rfl, rfl⟩ b38 b40 (Nat.le_of_ble_eq_true rfl)).trans ((ab_and_t (Nat.le_refl _)).trans (ab_and_t (Nat.le_refl _)))
theorem k38_14 {d : Nat} {L : ab_L} {st : List ab_V} {g : ab_G} {I : ab_I} {J : ab_J} {Q : ab_Q} {x : Int32} {l0 l1 l2 : Option ab_V} : ab_E d 38 14 (l0 :: l1 :: l2 :: L) (vI x :: st) 0 0 g I J Q ↔ ab_E d 38 15 (l0 :: ab_inv l1 :: some (vI x) :: L) st 0 0 g I J Q := ke_istore_n m38 (show ab_find cd_Latin_indexOf 14 = some (14, .istore_n 2, 1, 0, 0, []) from rfl) (Nat.succ_lt_succ (Nat.succ_lt_succ (Nat.zero_lt_succ _)))
theorem k38_15 {d : Nat} {L : ab_L} {st : List ab_V} {g : ab_G} {I : ab_I} {J : ab_J} {Q : ab_Q} {x : Int32} {l0 l1 l2 : Option ab_V} : ab_E d 38 15 (l0 :: l1 :: l2 :: some (vI x) :: L) st 0 0 g I J Q ↔ ab_E d 38 16 (l0 :: l1 :: l2 :: some (vI x) :: L) (vI x :: st) 0 0 g I J Q := ke_iload_n m38 (show ab_find cd_Latin_indexOf 15 = some (15, .iload_n 3, 1, 0, 0, []) from rfl) rfl
theorem k38_16 {d : Nat} {L : ab_L} {st : List ab_V} {g : ab_G} {I : ab_I} {J : ab_J} {Q : ab_Q} {x : Option Nat} : ab_E d 38 16 (some (vR x) :: L) st 0 0 g I J Q ↔ ab_E d 38 17 (some (vR x) :: L) (vR x :: st) 0 0 g I J Q := ke_aload_n m38 (show ab_find cd_Latin_indexOf 16 = some (16, .aload_n 0, 1, 0, 0, []) from rfl) rfl
theorem k38_17 {d : Nat} {L : ab_L} {st : List ab_V} {g : ab_G} {I : ab_I} {J : ab_J} {Q : ab_Q} {a : Nat} : ab_E d 38 17 L (vR (some a) :: st) 0 0 g I J Q ↔ 0 < ab_ty g a ∧ ab_ty g a < 10 ∧ ab_E d 38 18 L (vI (nI (ab_ln g a)) :: st) 0 0 g I J Q := ke_arraylength m38 (show ab_find cd_Latin_indexOf 17 = some (17, .arraylength, 1, 0, 0, []) from rfl)
theorem k38_18 {d : Nat} {L : ab_L} {g : ab_G} {I : ab_I} {J : ab_J} {Q : ab_Q} {a0 : Int32} {a1 : Int32} : ab_E d 38 18 L (vI a1 :: vI a0 :: []) 0 0 g I J Q ↔ ab_run d 35 [vI a0, vI a1] g I J (fun r g I J => ab_E d 38 21 L (ab_push r []) 0 0 g I J Q) := (ke_static m38 (show ab_find cd_Latin_indexOf 18 = some (18, .invokestatic 38, 3, 35, 2, [0, 460]) from rfl) (by decide) ⟨Nat.le_of_ble_eq_true rfl, rfl, rfl⟩ b38 b35 (Nat.le_of_ble_eq_true rfl)).trans ((ab_and_t (Nat.le_refl _)).trans (ab_and_t (Nat.le_refl _)))
theorem k38_21 {d : Nat} {L : ab_L} {st : List ab_V} {g : ab_G} {I : ab_I} {J : ab_J} {Q : ab_Q} {x : Int32} {l0 l1 l2 l3 : Option ab_V} : ab_E d 38 21 (l0 :: l1 :: l2 :: l3 :: L) (vI x :: st) 0 0 g I J Q ↔ ab_E d 38 22 (l0 :: l1 :: ab_inv l2 :: some (vI x) :: L) st 0 0 g I J Q := ke_istore_n m38 (show ab_find cd_Latin_indexOf 21 = some (21, .istore_n 3, 1, 0, 0, []) from rfl) (Nat.succ_lt_succ (Nat.succ_lt_succ (Nat.succ_lt_succ (Nat.zero_lt_succ _))))
theorem k38_22 {d : Nat} {L : ab_L} {st : List ab_V} {g : ab_G} {I : ab_I} {J : ab_J} {Q : ab_Q} {x : Int32} {l0 l1 : Option ab_V} : ab_E d 38 22 (l0 :: l1 :: some (vI x) :: L) st 0 0 g I J Q ↔ ab_E d 38 23 (l0 :: l1 :: some (vI x) :: L) (vI x :: st) 0 0 g I J Q := ke_iload_n m38 (show ab_find cd_Latin_indexOf 22 = some (22, .iload_n 2, 1, 0, 0, []) from rfl) rfl
theorem k38_23 {d : Nat} {L : ab_L} {st : List ab_V} {g : ab_G} {I : ab_I} {J : ab_J} {Q : ab_Q} {x : Int32} {l0 l1 l2 : Option ab_V} : ab_E d 38 23 (l0 :: l1 :: l2 :: some (vI x) :: L) st 0 0 g I J Q ↔ ab_E d 38 24 (l0 :: l1 :: l2 :: some (vI x) :: L) (vI x :: st) 0 0 g I J Q := ke_iload_n m38 (show ab_find cd_Latin_indexOf 23 = some (23, .iload_n 3, 1, 0, 0, []) from rfl) rfl
theorem k38_24 {d : Nat} {L : ab_L} {st : List ab_V} {g : ab_G} {I : ab_I} {J : ab_J} {Q : ab_Q} {x y : Int32} : ab_E d 38 24 L (vI y :: vI x :: st) 0 0 g I J Q ↔ if x < y then ab_E d 38 29 L st 0 0 g I J Q else ab_E d 38 27 L st 0 0 g I J Q := ke_icmp_lt m38 (show ab_find cd_Latin_indexOf 24 = some (24, .if_icmp .lt 5, 3, 29, 0, []) from rfl)
theorem k38_27 {d : Nat} {L : ab_L} {st : List ab_V} {g : ab_G} {I : ab_I} {J : ab_J} {Q : ab_Q} : ab_E d 38 27 L st 0 0 g I J Q ↔ ab_E d 38 28 L (vI (-1) :: st) 0 0 g I J Q := ke_iconst m38 (show ab_find cd_Latin_indexOf 27 = some (27, .iconst (-1), 1, 0, 0, []) from rfl) rfl
theorem k38_28 {d : Nat} {L : ab_L} {g : ab_G} {I : ab_I} {J : ab_J} {Q : ab_Q} {x : Int32} : ab_E d 38 28 L [vI x] 0 0 g I J Q ↔ Q (some (vI x)) g I J := ab_ret1z (ke_iret m38 (show ab_find cd_Latin_indexOf 28 = some (28, .ireturn, 1, 0, 0, []) from rfl) b38 r38)
theorem k38_29 {d : Nat} {L : ab_L} {st : List ab_V} {g : ab_G} {I : ab_I} {J : ab_J} {Q : ab_Q} {x : Option Nat} : ab_E d 38 29 (some (vR x) :: L) st 0 0 g I J Q ↔ ab_E d 38 30 (some (vR x) :: L) (vR x :: st) 0 0 g I J Q := ke_aload_n m38 (show ab_find cd_Latin_indexOf 29 = some (29, .aload_n 0, 1, 0, 0, []) from rfl) rfl
theorem k38_30 {d : Nat} {L : ab_L} {st : List ab_V} {g : ab_G} {I : ab_I} {J : ab_J} {Q : ab_Q} {x : Int32} {l0 : Option ab_V} : ab_E d 38 30 (l0 :: some (vI x) :: L) st 0 0 g I J Q ↔ ab_E d 38 31 (l0 :: some (vI x) :: L) (vI x :: st) 0 0 g I J Q := ke_iload_n m38 (show ab_find cd_Latin_indexOf 30 = some (30, .iload_n 1, 1, 0, 0, []) from rfl) rfl
theorem k38_31 {d : Nat} {L : ab_L} {st : List ab_V} {g : ab_G} {I : ab_I} {J : ab_J} {Q : ab_Q} {x : Int32} {l0 l1 : Option ab_V} : ab_E d 38 31 (l0 :: l1 :: some (vI x) :: L) st 0 0 g I J Q ↔ ab_E d 38 32 (l0 :: l1 :: some (vI x) :: L) (vI x :: st) 0 0 g I J Q := ke_iload_n m38 (show ab_find cd_Latin_indexOf 31 = some (31, .iload_n 2, 1, 0, 0, []) from rfl) rfl
theorem k38_32 {d : Nat} {L : ab_L} {st : List ab_V} {g : ab_G} {I : ab_I} {J : ab_J} {Q : ab_Q} {x : Int32} {l0 l1 l2 : Option ab_V} : ab_E d 38 32 (l0 :: l1 :: l2 :: some (vI x) :: L) st 0 0 g I J Q ↔ ab_E d 38 33 (l0 :: l1 :: l2 :: some (vI x) :: L) (vI x :: st) 0 0 g I J Q := ke_iload_n m38 (show ab_find cd_Latin_indexOf 32 = some (32, .iload_n 3, 1, 0, 0, []) from rfl) rfl
theorem k38_33 {d : Nat} {L : ab_L} {g : ab_G} {I : ab_I} {J : ab_J} {Q : ab_Q} {a0 : Option Nat} {a1 : Int32} {a2 : Int32} {a3 : Int32} : ab_E d 38 33 L (vI a3 :: vI a2 :: vI a1 :: vR a0 :: []) 0 0 g I J Q ↔ ab_run d 41 [vR a0, vI a1, vI a2, vI a3] g I J (fun r g I J => ab_E d 38 36 L (ab_push r []) 0 0 g I J Q) := (ke_static m38 (show ab_find cd_Latin_indexOf 33 = some (33, .invokestatic 95, 3, 41, 4, [0, 461]) from rfl) (by decide) ⟨Nat.le_of_ble_eq_true rfl, rfl, rfl⟩ b38 b41 (Nat.le_of_ble_eq_true rfl)).trans ((ab_and_t (Nat.le_refl _)).trans (ab_and_t (Nat.le_refl _)))
theorem k38_36 {d : Nat} {L : ab_L} {g : ab_G} {I : ab_I} {J : ab_J} {Q : ab_Q} {x : Int32} : ab_E d 38 36 L [vI x] 0 0 g I J Q ↔ Q (some (vI x)) g I J := ab_ret1z (ke_iret m38 (show ab_find cd_Latin_indexOf 36 = some (36, .ireturn, 1, 0, 0, []) from rfl) b38 r38)
theorem m39 : ab_cdm 39 = cd_Latin_canEncode := rfl
theorem r39 : ab_rt (ab_meth 39).2.2.2.1 = 4 := rfl
theorem e39 {d : Nat} {a0 : Int32} {g : ab_G} {I : ab_I} {J : ab_J} {Q : ab_Q} : ab_run (d + 1) 39 [vI a0] g I J Q ↔ ab_E d 39 0 [some (vI a0)] [] 0 0 g I J Q := ab_run_ent (by decide) rfl (Nat.le_of_ble_eq_true rfl) rfl
theorem k39_0 {d : Nat} {L : ab_L} {st : List ab_V} {g : ab_G} {I : ab_I} {J : ab_J} {Q : ab_Q} {x : Int32} : ab_E d 39 0 (some (vI x) :: L) st 0 0 g I J Q ↔ ab_E d 39 1 (some (vI x) :: L) (vI x :: st) 0 0 g I J Q := ke_iload_n m39 (show ab_find cd_Latin_canEncode 0 = some (0, .iload_n 0, 1, 0, 0, []) from rfl) rfl
theorem k39_1 {d : Nat} {L : ab_L} {st : List ab_V} {g : ab_G} {I : ab_I} {J : ab_J} {Q : ab_Q} {x : Int32} : ab_E d 39 1 L (vI x :: st) 0 0 g I J Q ↔ if x < 0 then ab_E d 39 15 L st 0 0 g I J Q else ab_E d 39 4 L st 0 0 g I J Q := ke_if_lt m39 (show ab_find cd_Latin_canEncode 1 = some (1, .ifCond .lt 14, 3, 15, 0, []) from rfl)
theorem k39_4 {d : Nat} {L : ab_L} {st : List ab_V} {g : ab_G} {I : ab_I} {J : ab_J} {Q : ab_Q} {x : Int32} : ab_E d 39 4 (some (vI x) :: L) st 0 0 g I J Q ↔ ab_E d 39 5 (some (vI x) :: L) (vI x :: st) 0 0 g I J Q := ke_iload_n m39 (show ab_find cd_Latin_canEncode 4 = some (4, .iload_n 0, 1, 0, 0, []) from rfl) rfl
theorem k39_5 {d : Nat} {L : ab_L} {st : List ab_V} {g : ab_G} {I : ab_I} {J : ab_J} {Q : ab_Q} : ab_E d 39 5 L st 0 0 g I J Q ↔ ab_E d 39 8 L (vI 255 :: st) 0 0 g I J Q := ke_sipush m39 (show ab_find cd_Latin_canEncode 5 = some (5, .sipush 255, 3, 0, 0, []) from rfl) rfl
theorem k39_8 {d : Nat} {L : ab_L} {st : List ab_V} {g : ab_G} {I : ab_I} {J : ab_J} {Q : ab_Q} {x y : Int32} : ab_E d 39 8 L (vI y :: vI x :: st) 0 0 g I J Q ↔ if y < x then ab_E d 39 15 L st 0 0 g I J Q else ab_E d 39 11 L st 0 0 g I J Q := ke_icmp_gt m39 (show ab_find cd_Latin_canEncode 8 = some (8, .if_icmp .gt 7, 3, 15, 0, []) from rfl)
theorem k39_11 {d : Nat} {L : ab_L} {st : List ab_V} {g : ab_G} {I : ab_I} {J : ab_J} {Q : ab_Q} : ab_E d 39 11 L st 0 0 g I J Q ↔ ab_E d 39 12 L (vI 1 :: st) 0 0 g I J Q := ke_iconst m39 (show ab_find cd_Latin_canEncode 11 = some (11, .iconst 1, 1, 0, 0, []) from rfl) rfl
theorem k39_12 {d : Nat} {L : ab_L} {st : List ab_V} {g : ab_G} {I : ab_I} {J : ab_J} {Q : ab_Q} : ab_E d 39 12 L st 0 0 g I J Q ↔ ab_E d 39 16 L st 0 0 g I J Q := ke_goto m39 (show ab_find cd_Latin_canEncode 12 = some (12, .goto 4, 3, 16, 0, []) from rfl)
theorem k39_15 {d : Nat} {L : ab_L} {st : List ab_V} {g : ab_G} {I : ab_I} {J : ab_J} {Q : ab_Q} : ab_E d 39 15 L st 0 0 g I J Q ↔ ab_E d 39 16 L (vI 0 :: st) 0 0 g I J Q := ke_iconst m39 (show ab_find cd_Latin_canEncode 15 = some (15, .iconst 0, 1, 0, 0, []) from rfl) rfl
theorem k39_16 {d : Nat} {L : ab_L} {g : ab_G} {I : ab_I} {J : ab_J} {Q : ab_Q} {x : Int32} : ab_E d 39 16 L [vI x] 0 0 g I J Q ↔ ab_bit x ∧ Q (some (vI x)) g I J := ab_ret4z (ke_iret m39 (show ab_find cd_Latin_canEncode 16 = some (16, .ireturn, 1, 0, 0, []) from rfl) b39 r39)
theorem m40 : ab_cdm 40 = cd_Math_max := rfl
theorem r40 : ab_rt (ab_meth 40).2.2.2.1 = 1 := rfl
theorem e40 {d : Nat} {a0 : Int32} {a1 : Int32} {g : ab_G} {I : ab_I} {J : ab_J} {Q : ab_Q} : ab_run (d + 1) 40 [vI a0, vI a1] g I J Q ↔ ab_E d 40 0 [some (vI a0), some (vI a1)] [] 0 0 g I J Q := ab_run_ent (by decide) rfl (Nat.le_of_ble_eq_true rfl) rfl
theorem k40_0 {d : Nat} {L : ab_L} {st : List ab_V} {g : ab_G} {I : ab_I} {J : ab_J} {Q : ab_Q} {x : Int32} : ab_E d 40 0 (some (vI x) :: L) st 0 0 g I J Q ↔ ab_E d 40 1 (some (vI x) :: L) (vI x :: st) 0 0 g I J Q := ke_iload_n m40 (show ab_find cd_Math_max 0 = some (0, .iload_n 0, 1, 0, 0, []) from rfl) rfl
theorem k40_1 {d : Nat} {L : ab_L} {st : List ab_V} {g : ab_G} {I : ab_I} {J : ab_J} {Q : ab_Q} {x : Int32} {l0 : Option ab_V} : ab_E d 40 1 (l0 :: some (vI x) :: L) st 0 0 g I J Q ↔ ab_E d 40 2 (l0 :: some (vI x) :: L) (vI x :: st) 0 0 g I J Q := ke_iload_n m40 (show ab_find cd_Math_max 1 = some (1, .iload_n 1, 1, 0, 0, []) from rfl) rfl
theorem k40_2 {d : Nat} {L : ab_L} {st : List ab_V} {g : ab_G} {I : ab_I} {J : ab_J} {Q : ab_Q} {x y : Int32} : ab_E d 40 2 L (vI y :: vI x :: st) 0 0 g I J Q ↔ if x < y then ab_E d 40 9 L st 0 0 g I J Q else ab_E d 40 5 L st 0 0 g I J Q := ke_icmp_lt m40 (show ab_find cd_Math_max 2 = some (2, .if_icmp .lt 7, 3, 9, 0, []) from rfl)
theorem k40_5 {d : Nat} {L : ab_L} {st : List ab_V} {g : ab_G} {I : ab_I} {J : ab_J} {Q : ab_Q} {x : Int32} : ab_E d 40 5 (some (vI x) :: L) st 0 0 g I J Q ↔ ab_E d 40 6 (some (vI x) :: L) (vI x :: st) 0 0 g I J Q := ke_iload_n m40 (show ab_find cd_Math_max 5 = some (5, .iload_n 0, 1, 0, 0, []) from rfl) rfl
theorem k40_6 {d : Nat} {L : ab_L} {st : List ab_V} {g : ab_G} {I : ab_I} {J : ab_J} {Q : ab_Q} : ab_E d 40 6 L st 0 0 g I J Q ↔ ab_E d 40 10 L st 0 0 g I J Q := ke_goto m40 (show ab_find cd_Math_max 6 = some (6, .goto 4, 3, 10, 0, []) from rfl)
theorem k40_9 {d : Nat} {L : ab_L} {st : List ab_V} {g : ab_G} {I : ab_I} {J : ab_J} {Q : ab_Q} {x : Int32} {l0 : Option ab_V} : ab_E d 40 9 (l0 :: some (vI x) :: L) st 0 0 g I J Q ↔ ab_E d 40 10 (l0 :: some (vI x) :: L) (vI x :: st) 0 0 g I J Q := ke_iload_n m40 (show ab_find cd_Math_max 9 = some (9, .iload_n 1, 1, 0, 0, []) from rfl) rfl
theorem k40_10 {d : Nat} {L : ab_L} {g : ab_G} {I : ab_I} {J : ab_J} {Q : ab_Q} {x : Int32} : ab_E d 40 10 L [vI x] 0 0 g I J Q ↔ Q (some (vI x)) g I J := ab_ret1z (ke_iret m40 (show ab_find cd_Math_max 10 = some (10, .ireturn, 1, 0, 0, []) from rfl) b40 r40)
theorem m41 : ab_cdm 41 = cd_Latin_indexOfChar := rfl
theorem r41 : ab_rt (ab_meth 41).2.2.2.1 = 1 := rfl
theorem e41 {d : Nat} {a0 : Option Nat} {a1 : Int32} {a2 : Int32} {a3 : Int32} {g : ab_G} {I : ab_I} {J : ab_J} {Q : ab_Q} : ab_run (d + 1) 41 [vR a0, vI a1, vI a2, vI a3] g I J Q ↔ ab_E d 41 0 [some (vR a0), some (vI a1), some (vI a2), some (vI a3), none, none] [] 0 0 g I J Q := ab_run_ent (by decide) rfl (Nat.le_of_ble_eq_true rfl) rfl
theorem k41_0 {d : Nat} {L : ab_L} {st : List ab_V} {g : ab_G} {I : ab_I} {J : ab_J} {Q : ab_Q} {x : Int32} {l0 : Option ab_V} : ab_E d 41 0 (l0 :: some (vI x) :: L) st 0 0 g I J Q ↔ ab_E d 41 1 (l0 :: some (vI x) :: L) (vI x :: st) 0 0 g I J Q := ke_iload_n m41 (show ab_find cd_Latin_indexOfChar 0 = some (0, .iload_n 1, 1, 0, 0, []) from rfl) rfl
theorem k41_1 {d : Nat} {L : ab_L} {st : List ab_V} {g : ab_G} {I : ab_I} {J : ab_J} {Q : ab_Q} {x : Int32} : ab_E d 41 1 L (vI x :: st) 0 0 g I J Q ↔ ab_E d 41 2 L (vI x.toInt8.toInt32 :: st) 0 0 g I J Q := ke_i2b m41 (show ab_find cd_Latin_indexOfChar 1 = some (1, .i2b, 1, 0, 0, []) from rfl)
theorem k41_2 {d : Nat} {L : ab_L} {st : List ab_V} {g : ab_G} {I : ab_I} {J : ab_J} {Q : ab_Q} {x : Int32} {l0 l1 l2 l3 l4 : Option ab_V} : ab_E d 41 2 (l0 :: l1 :: l2 :: l3 :: l4 :: L) (vI x :: st) 0 0 g I J Q ↔ ab_E d 41 4 (l0 :: l1 :: l2 :: ab_inv l3 :: some (vI x) :: L) st 0 0 g I J Q := ke_istore m41 (show ab_find cd_Latin_indexOfChar 2 = some (2, .istore 4, 2, 0, 0, []) from rfl) (Nat.succ_lt_succ (Nat.succ_lt_succ (Nat.succ_lt_succ (Nat.succ_lt_succ (Nat.zero_lt_succ _)))))
theorem k41_4 {d : Nat} {L : ab_L} {st : List ab_V} {g : ab_G} {I : ab_I} {J : ab_J} {Q : ab_Q} {x : Int32} {l0 l1 : Option ab_V} : ab_E d 41 4 (l0 :: l1 :: some (vI x) :: L) st 0 0 g I J Q ↔ ab_E d 41 5 (l0 :: l1 :: some (vI x) :: L) (vI x :: st) 0 0 g I J Q := ke_iload_n m41 (show ab_find cd_Latin_indexOfChar 4 = some (4, .iload_n 2, 1, 0, 0, []) from rfl) rfl
theorem k41_5 {d : Nat} {L : ab_L} {st : List ab_V} {g : ab_G} {I : ab_I} {J : ab_J} {Q : ab_Q} {x : Int32} {l0 l1 l2 l3 l4 l5 : Option ab_V} : ab_E d 41 5 (l0 :: l1 :: l2 :: l3 :: l4 :: l5 :: L) (vI x :: st) 0 0 g I J Q ↔ ab_E d 41 7 (l0 :: l1 :: l2 :: l3 :: ab_inv l4 :: some (vI x) :: L) st 0 0 g I J Q := ke_istore m41 (show ab_find cd_Latin_indexOfChar 5 = some (5, .istore 5, 2, 0, 0, []) from rfl) (Nat.succ_lt_succ (Nat.succ_lt_succ (Nat.succ_lt_succ (Nat.succ_lt_succ (Nat.succ_lt_succ (Nat.zero_lt_succ _))))))
theorem k41_7 {d : Nat} {L : ab_L} {st : List ab_V} {g : ab_G} {I : ab_I} {J : ab_J} {Q : ab_Q} {x : Int32} {l0 l1 l2 l3 l4 : Option ab_V} : ab_E d 41 7 (l0 :: l1 :: l2 :: l3 :: l4 :: some (vI x) :: L) st 0 0 g I J Q ↔ ab_E d 41 9 (l0 :: l1 :: l2 :: l3 :: l4 :: some (vI x) :: L) (vI x :: st) 0 0 g I J Q := ke_iload m41 (show ab_find cd_Latin_indexOfChar 7 = some (7, .iload 5, 2, 0, 0, []) from rfl) rfl
theorem k41_9 {d : Nat} {L : ab_L} {st : List ab_V} {g : ab_G} {I : ab_I} {J : ab_J} {Q : ab_Q} {x : Int32} {l0 l1 l2 : Option ab_V} : ab_E d 41 9 (l0 :: l1 :: l2 :: some (vI x) :: L) st 0 0 g I J Q ↔ ab_E d 41 10 (l0 :: l1 :: l2 :: some (vI x) :: L) (vI x :: st) 0 0 g I J Q := ke_iload_n m41 (show ab_find cd_Latin_indexOfChar 9 = some (9, .iload_n 3, 1, 0, 0, []) from rfl) rfl
theorem k41_10 {d : Nat} {L : ab_L} {st : List ab_V} {g : ab_G} {I : ab_I} {J : ab_J} {Q : ab_Q} {x y : Int32} : ab_E d 41 10 L (vI y :: vI x :: st) 0 0 g I J Q ↔ if x < y then ab_E d 41 13 L st 0 0 g I J Q else ab_E d 41 31 L st 0 0 g I J Q := ke_icmp_ge m41 (show ab_find cd_Latin_indexOfChar 10 = some (10, .if_icmp .ge 21, 3, 31, 0, []) from rfl)
theorem k41_13 {d : Nat} {L : ab_L} {st : List ab_V} {g : ab_G} {I : ab_I} {J : ab_J} {Q : ab_Q} {x : Option Nat} : ab_E d 41 13 (some (vR x) :: L) st 0 0 g I J Q ↔ ab_E d 41 14 (some (vR x) :: L) (vR x :: st) 0 0 g I J Q := ke_aload_n m41 (show ab_find cd_Latin_indexOfChar 13 = some (13, .aload_n 0, 1, 0, 0, []) from rfl) rfl
theorem k41_14 {d : Nat} {L : ab_L} {st : List ab_V} {g : ab_G} {I : ab_I} {J : ab_J} {Q : ab_Q} {x : Int32} {l0 l1 l2 l3 l4 : Option ab_V} : ab_E d 41 14 (l0 :: l1 :: l2 :: l3 :: l4 :: some (vI x) :: L) st 0 0 g I J Q ↔ ab_E d 41 16 (l0 :: l1 :: l2 :: l3 :: l4 :: some (vI x) :: L) (vI x :: st) 0 0 g I J Q := ke_iload m41 (show ab_find cd_Latin_indexOfChar 14 = some (14, .iload 5, 2, 0, 0, []) from rfl) rfl
theorem k41_16 {d : Nat} {L : ab_L} {st : List ab_V} {g : ab_G} {I : ab_I} {J : ab_J} {Q : ab_Q} {a : Nat} {j : Int32} : ab_E d 41 16 L (vI j :: vR (some a) :: st) 0 0 g I J Q ↔ ab_ty g a = 7 ∧ vp_in j (ab_ln g a) ∧ ab_E d 41 17 L (vI (I a j.toNatClampNeg) :: st) 0 0 g I J Q := ke_baload m41 (show ab_find cd_Latin_indexOfChar 16 = some (16, .baload, 1, 0, 0, []) from rfl)
theorem k41_17 {d : Nat} {L : ab_L} {st : List ab_V} {g : ab_G} {I : ab_I} {J : ab_J} {Q : ab_Q} {x : Int32} {l0 l1 l2 l3 : Option ab_V} : ab_E d 41 17 (l0 :: l1 :: l2 :: l3 :: some (vI x) :: L) st 0 0 g I J Q ↔ ab_E d 41 19 (l0 :: l1 :: l2 :: l3 :: some (vI x) :: L) (vI x :: st) 0 0 g I J Q := ke_iload m41 (show ab_find cd_Latin_indexOfChar 17 = some (17, .iload 4, 2, 0, 0, []) from rfl) rfl
theorem k41_19 {d : Nat} {L : ab_L} {st : List ab_V} {g : ab_G} {I : ab_I} {J : ab_J} {Q : ab_Q} {x y : Int32} : ab_E d 41 19 L (vI y :: vI x :: st) 0 0 g I J Q ↔ if x = y then ab_E d 41 22 L st 0 0 g I J Q else ab_E d 41 25 L st 0 0 g I J Q := ke_icmp_ne m41 (show ab_find cd_Latin_indexOfChar 19 = some (19, .if_icmp .ne 6, 3, 25, 0, []) from rfl)
theorem k41_22 {d : Nat} {L : ab_L} {st : List ab_V} {g : ab_G} {I : ab_I} {J : ab_J} {Q : ab_Q} {x : Int32} {l0 l1 l2 l3 l4 : Option ab_V} : ab_E d 41 22 (l0 :: l1 :: l2 :: l3 :: l4 :: some (vI x) :: L) st 0 0 g I J Q ↔ ab_E d 41 24 (l0 :: l1 :: l2 :: l3 :: l4 :: some (vI x) :: L) (vI x :: st) 0 0 g I J Q := ke_iload m41 (show ab_find cd_Latin_indexOfChar 22 = some (22, .iload 5, 2, 0, 0, []) from rfl) rfl
theorem k41_24 {d : Nat} {L : ab_L} {g : ab_G} {I : ab_I} {J : ab_J} {Q : ab_Q} {x : Int32} : ab_E d 41 24 L [vI x] 0 0 g I J Q ↔ Q (some (vI x)) g I J := ab_ret1z (ke_iret m41 (show ab_find cd_Latin_indexOfChar 24 = some (24, .ireturn, 1, 0, 0, []) from rfl) b41 r41)
theorem k41_25 {d : Nat} {L : ab_L} {st : List ab_V} {g : ab_G} {I : ab_I} {J : ab_J} {Q : ab_Q} {x : Int32} {l0 l1 l2 l3 l4 : Option ab_V} : ab_E d 41 25 (l0 :: l1 :: l2 :: l3 :: l4 :: some (vI x) :: L) st 0 0 g I J Q ↔ ab_E d 41 28 (l0 :: l1 :: l2 :: l3 :: ab_inv l4 :: some (vI (x + 1)) :: L) st 0 0 g I J Q := ke_iinc m41 (show ab_find cd_Latin_indexOfChar 25 = some (25, .iinc 5 1, 3, 0, 0, []) from rfl) (Nat.succ_lt_succ (Nat.succ_lt_succ (Nat.succ_lt_succ (Nat.succ_lt_succ (Nat.succ_lt_succ (Nat.zero_lt_succ _)))))) rfl rfl
theorem k41_28 {d : Nat} {L : ab_L} {st : List ab_V} {g : ab_G} {I : ab_I} {J : ab_J} {Q : ab_Q} : ab_E d 41 28 L st 0 0 g I J Q ↔ ab_E d 41 7 L st 0 0 g I J Q := ke_goto m41 (show ab_find cd_Latin_indexOfChar 28 = some (28, .goto (-21), 3, 7, 0, []) from rfl)
theorem k41_31 {d : Nat} {L : ab_L} {st : List ab_V} {g : ab_G} {I : ab_I} {J : ab_J} {Q : ab_Q} : ab_E d 41 31 L st 0 0 g I J Q ↔ ab_E d 41 32 L (vI (-1) :: st) 0 0 g I J Q := ke_iconst m41 (show ab_find cd_Latin_indexOfChar 31 = some (31, .iconst (-1), 1, 0, 0, []) from rfl) rfl
theorem k41_32 {d : Nat} {L : ab_L} {g : ab_G} {I : ab_I} {J : ab_J} {Q : ab_Q} {x : Int32} : ab_E d 41 32 L [vI x] 0 0 g I J Q ↔ Q (some (vI x)) g I J := ab_ret1z (ke_iret m41 (show ab_find cd_Latin_indexOfChar 32 = some (32, .ireturn, 1, 0, 0, []) from rfl) b41 r41)
theorem m49 : ab_cdm 49 = cd_Arrays_copyOf := rfl
theorem r49 : ab_rt (ab_meth 49).2.2.2.1 = 3 := rfl
theorem e49 {d : Nat} {a0 : Option Nat} {a1 : Int32} {g : ab_G} {I : ab_I} {J : ab_J} {Q : ab_Q} : ab_run (d + 1) 49 [vR a0, vI a1] g I J Q ↔ ab_E d 49 0 [some (vR a0), some (vI a1), none] [] 0 0 g I J Q := ab_run_ent (by decide) rfl (Nat.le_of_ble_eq_true rfl) rfl
theorem k49_0 {d : Nat} {L : ab_L} {st : List ab_V} {ce sl : Nat} {g : ab_G} {I : ab_I} {J : ab_J} {Q : ab_Q} {x : Int32} {l0 : Option ab_V} : ab_E d 49 0 (l0 :: some (vI x) :: L) st ce sl g I J Q ↔ ab_E d 49 1 (l0 :: some (vI x) :: L) (vI x :: st) ce sl g I J Q := ke_iload_n m49 (show ab_find cd_Arrays_copyOf 0 = some (0, .iload_n 1, 1, 0, 0, []) from rfl) rfl
theorem k49_1 {d : Nat} {L : ab_L} {st : List ab_V} {ce sl : Nat} {g : ab_G} {I : ab_I} {J : ab_J} {Q : ab_Q} {x : Option Nat} : ab_E d 49 1 (some (vR x) :: L) st ce sl g I J Q ↔ ab_E d 49 2 (some (vR x) :: L) (vR x :: st) ce sl g I J Q := ke_aload_n m49 (show ab_find cd_Arrays_copyOf 1 = some (1, .aload_n 0, 1, 0, 0, []) from rfl) rfl
theorem k49_2 {d : Nat} {L : ab_L} {st : List ab_V} {ce sl : Nat} {g : ab_G} {I : ab_I} {J : ab_J} {Q : ab_Q} {a : Nat} : ab_E d 49 2 L (vR (some a) :: st) ce sl g I J Q ↔ 0 < ab_ty g a ∧ ab_ty g a < 10 ∧ ab_E d 49 3 L (vI (nI (ab_ln g a)) :: st) ce sl g I J Q := ke_arraylength m49 (show ab_find cd_Arrays_copyOf 2 = some (2, .arraylength, 1, 0, 0, []) from rfl)
theorem k49_3 {d : Nat} {L : ab_L} {st : List ab_V} {ce sl : Nat} {g : ab_G} {I : ab_I} {J : ab_J} {Q : ab_Q} {x y : Int32} : ab_E d 49 3 L (vI y :: vI x :: st) ce sl g I J Q ↔ if x = y then ab_E d 49 6 L st ce sl g I J Q else ab_E d 49 14 L st ce sl g I J Q := ke_icmp_ne m49 (show ab_find cd_Arrays_copyOf 3 = some (3, .if_icmp .ne 11, 3, 14, 0, []) from rfl)
theorem k49_6 {d : Nat} {L : ab_L} {st : List ab_V} {ce sl : Nat} {g : ab_G} {I : ab_I} {J : ab_J} {Q : ab_Q} {x : Option Nat} : ab_E d 49 6 (some (vR x) :: L) st ce sl g I J Q ↔ ab_E d 49 7 (some (vR x) :: L) (vR x :: st) ce sl g I J Q := ke_aload_n m49 (show ab_find cd_Arrays_copyOf 6 = some (6, .aload_n 0, 1, 0, 0, []) from rfl) rfl
theorem k49_14 {d : Nat} {L : ab_L} {st : List ab_V} {ce sl : Nat} {g : ab_G} {I : ab_I} {J : ab_J} {Q : ab_Q} {x : Int32} {l0 : Option ab_V} : ab_E d 49 14 (l0 :: some (vI x) :: L) st ce sl g I J Q ↔ ab_E d 49 15 (l0 :: some (vI x) :: L) (vI x :: st) ce sl g I J Q := ke_iload_n m49 (show ab_find cd_Arrays_copyOf 14 = some (14, .iload_n 1, 1, 0, 0, []) from rfl) rfl
theorem k49_15 {d : Nat} {L : ab_L} {st : List ab_V} {ce sl : Nat} {g : ab_G} {I : ab_I} {J : ab_J} {Q : ab_Q} {x : Int32} : ab_E d 49 15 L (vI x :: st) ce sl g I J Q ↔ ¬ x < 0 ∧ x.toNatClampNeg < 65536 ∧ ce + 1 ≤ 1 ∧ sl + x.toNatClampNeg ≤ 120 ∧ ab_E d 49 17 L (vR (some (ab_n g)) :: st) (ce + 1) (sl + x.toNatClampNeg) (ab_mk g 1 x.toNatClampNeg) (ab_z I (ab_n g) (ab_n g + 1) 0) (ab_z J (ab_n g) (ab_n g + 1) 0) Q := ke_newI m49 (show ab_find cd_Arrays_copyOf 15 = some (15, .newarray .int, 2, 0, 0, []) from rfl) b49
theorem k49_17 {d : Nat} {L : ab_L} {st : List ab_V} {ce sl : Nat} {g : ab_G} {I : ab_I} {J : ab_J} {Q : ab_Q} {x : Option Nat} {l0 l1 l2 : Option ab_V} : ab_E d 49 17 (l0 :: l1 :: l2 :: L) (vR x :: st) ce sl g I J Q ↔ ab_E d 49 18 (l0 :: ab_inv l1 :: some (vR x) :: L) st ce sl g I J Q := ke_astore_n m49 (show ab_find cd_Arrays_copyOf 17 = some (17, .astore_n 2, 1, 0, 0, []) from rfl) (Nat.succ_lt_succ (Nat.succ_lt_succ (Nat.zero_lt_succ _)))
theorem k49_18 {d : Nat} {L : ab_L} {st : List ab_V} {ce sl : Nat} {g : ab_G} {I : ab_I} {J : ab_J} {Q : ab_Q} {x : Option Nat} : ab_E d 49 18 (some (vR x) :: L) st ce sl g I J Q ↔ ab_E d 49 19 (some (vR x) :: L) (vR x :: st) ce sl g I J Q := ke_aload_n m49 (show ab_find cd_Arrays_copyOf 18 = some (18, .aload_n 0, 1, 0, 0, []) from rfl) rfl
theorem k49_19 {d : Nat} {L : ab_L} {st : List ab_V} {ce sl : Nat} {g : ab_G} {I : ab_I} {J : ab_J} {Q : ab_Q} : ab_E d 49 19 L st ce sl g I J Q ↔ ab_E d 49 20 L (vI 0 :: st) ce sl g I J Q := ke_iconst m49 (show ab_find cd_Arrays_copyOf 19 = some (19, .iconst 0, 1, 0, 0, []) from rfl) rfl
theorem k49_20 {d : Nat} {L : ab_L} {st : List ab_V} {ce sl : Nat} {g : ab_G} {I : ab_I} {J : ab_J} {Q : ab_Q} {x : Option Nat} {l0 l1 : Option ab_V} : ab_E d 49 20 (l0 :: l1 :: some (vR x) :: L) st ce sl g I J Q ↔ ab_E d 49 21 (l0 :: l1 :: some (vR x) :: L) (vR x :: st) ce sl g I J Q := ke_aload_n m49 (show ab_find cd_Arrays_copyOf 20 = some (20, .aload_n 2, 1, 0, 0, []) from rfl) rfl
theorem k49_21 {d : Nat} {L : ab_L} {st : List ab_V} {ce sl : Nat} {g : ab_G} {I : ab_I} {J : ab_J} {Q : ab_Q} : ab_E d 49 21 L st ce sl g I J Q ↔ ab_E d 49 22 L (vI 0 :: st) ce sl g I J Q := ke_iconst m49 (show ab_find cd_Arrays_copyOf 21 = some (21, .iconst 0, 1, 0, 0, []) from rfl) rfl
theorem k49_22 {d : Nat} {L : ab_L} {st : List ab_V} {ce sl : Nat} {g : ab_G} {I : ab_I} {J : ab_J} {Q : ab_Q} {x : Option Nat} : ab_E d 49 22 (some (vR x) :: L) st ce sl g I J Q ↔ ab_E d 49 23 (some (vR x) :: L) (vR x :: st) ce sl g I J Q := ke_aload_n m49 (show ab_find cd_Arrays_copyOf 22 = some (22, .aload_n 0, 1, 0, 0, []) from rfl) rfl
theorem k49_23 {d : Nat} {L : ab_L} {st : List ab_V} {ce sl : Nat} {g : ab_G} {I : ab_I} {J : ab_J} {Q : ab_Q} {a : Nat} : ab_E d 49 23 L (vR (some a) :: st) ce sl g I J Q ↔ 0 < ab_ty g a ∧ ab_ty g a < 10 ∧ ab_E d 49 24 L (vI (nI (ab_ln g a)) :: st) ce sl g I J Q := ke_arraylength m49 (show ab_find cd_Arrays_copyOf 23 = some (23, .arraylength, 1, 0, 0, []) from rfl)
theorem k49_24 {d : Nat} {L : ab_L} {st : List ab_V} {ce sl : Nat} {g : ab_G} {I : ab_I} {J : ab_J} {Q : ab_Q} {x : Int32} {l0 : Option ab_V} : ab_E d 49 24 (l0 :: some (vI x) :: L) st ce sl g I J Q ↔ ab_E d 49 25 (l0 :: some (vI x) :: L) (vI x :: st) ce sl g I J Q := ke_iload_n m49 (show ab_find cd_Arrays_copyOf 24 = some (24, .iload_n 1, 1, 0, 0, []) from rfl) rfl
theorem k49_25 {d : Nat} {L : ab_L} {ce sl : Nat} {g : ab_G} {I : ab_I} {J : ab_J} {Q : ab_Q} {z0 : Int32} {z1 : Option Nat} {z2 : Int32} {z3 : Option Nat} {a0 : Int32} {a1 : Int32} : ab_E d 49 25 L (vI a1 :: vI a0 :: [vI z0, vR z1, vI z2, vR z3]) ce sl g I J Q ↔ ce ≤ 1 ∧ sl ≤ 120 ∧ ab_run d 35 [vI a0, vI a1] g I J (fun r g I J => ab_E d 49 28 L (ab_push r [vI z0, vR z1, vI z2, vR z3]) ce sl g I J Q) := ke_static m49 (show ab_find cd_Arrays_copyOf 25 = some (25, .invokestatic 304, 3, 35, 2, [0, 539]) from rfl) (by decide) ⟨Nat.le_of_ble_eq_true rfl, rfl, rfl⟩ b49 b35 (Nat.le_of_ble_eq_true rfl)
theorem k49_28 {d : Nat} {L : ab_L} {ce sl : Nat} {g : ab_G} {I : ab_I} {J : ab_J} {Q : ab_Q} {a0 a1 : Nat} {sp dp n : Int32} : ab_E d 49 28 L (vI n :: vI dp :: vR (some a1) :: vI sp :: vR (some a0) :: []) ce sl g I J Q ↔ 29 ≤ a0 ∧ 29 ≤ a1 ∧ ¬ sp < 0 ∧ ¬ dp < 0 ∧ ¬ n < 0 ∧ sp.toNatClampNeg + n.toNatClampNeg ≤ ab_ln g a0 ∧ dp.toNatClampNeg + n.toNatClampNeg ≤ ab_ln g a1 ∧ ((ab_ty g a0 = 1 ∧ ab_ty g a1 = 1 ∧ ab_E d 49 31 L [] ce sl g (ab_cp I a0 sp.toNatClampNeg a1 dp.toNatClampNeg n.toNatClampNeg) J Q) ∨ (ab_ty g a0 = 2 ∧ ab_ty g a1 = 2 ∧ ab_E d 49 31 L [] ce sl g I (ab_cp J a0 sp.toNatClampNeg a1 dp.toNatClampNeg n.toNatClampNeg) Q)) := ke_copy m49 (show ab_find cd_Arrays_copyOf 28 = some (28, .invokestatic 150, 3, 0, 5, [3, 540]) from rfl) (by decide)
theorem k49_31 {d : Nat} {L : ab_L} {st : List ab_V} {ce sl : Nat} {g : ab_G} {I : ab_I} {J : ab_J} {Q : ab_Q} {x : Option Nat} {l0 l1 : Option ab_V} : ab_E d 49 31 (l0 :: l1 :: some (vR x) :: L) st ce sl g I J Q ↔ ab_E d 49 32 (l0 :: l1 :: some (vR x) :: L) (vR x :: st) ce sl g I J Q := ke_aload_n m49 (show ab_find cd_Arrays_copyOf 31 = some (31, .aload_n 2, 1, 0, 0, []) from rfl) rfl
theorem k49_32 {d : Nat} {L : ab_L} {ce sl : Nat} {g : ab_G} {I : ab_I} {J : ab_J} {Q : ab_Q} {x : Option Nat} : ab_E d 49 32 L [vR x] ce sl g I J Q ↔ ce ≤ 1 ∧ sl ≤ 120 ∧ Q (some (vR x)) g I J := ke_aret m49 (show ab_find cd_Arrays_copyOf 32 = some (32, .areturn, 1, 0, 0, []) from rfl) b49 r49
theorem m109 : ab_cdm 109 = cd_Arrays_fill := rfl
theorem r109 : ab_rt (ab_meth 109).2.2.2.1 = 0 := rfl
theorem e109 {d : Nat} {a0 : Option Nat} {a1 : Int64} {g : ab_G} {I : ab_I} {J : ab_J} {Q : ab_Q} : ab_run (d + 1) 109 [vR a0, vL a1] g I J Q ↔ ab_E d 109 0 [some (vR a0), some (vL a1), none, none, none] [] 0 0 g I J Q := ab_run_ent (by decide) rfl (Nat.le_of_ble_eq_true rfl) rfl
theorem k109_0 {d : Nat} {L : ab_L} {st : List ab_V} {g : ab_G} {I : ab_I} {J : ab_J} {Q : ab_Q} : ab_E d 109 0 L st 0 0 g I J Q ↔ ab_E d 109 1 L (vI 0 :: st) 0 0 g I J Q := ke_iconst m109 (show ab_find cd_Arrays_fill 0 = some (0, .iconst 0, 1, 0, 0, []) from rfl) rfl
theorem k109_1 {d : Nat} {L : ab_L} {st : List ab_V} {g : ab_G} {I : ab_I} {J : ab_J} {Q : ab_Q} {x : Int32} {l0 l1 l2 l3 : Option ab_V} : ab_E d 109 1 (l0 :: l1 :: l2 :: l3 :: L) (vI x :: st) 0 0 g I J Q ↔ ab_E d 109 2 (l0 :: l1 :: ab_inv l2 :: some (vI x) :: L) st 0 0 g I J Q := ke_istore_n m109 (show ab_find cd_Arrays_fill 1 = some (1, .istore_n 3, 1, 0, 0, []) from rfl) (Nat.succ_lt_succ (Nat.succ_lt_succ (Nat.succ_lt_succ (Nat.zero_lt_succ _))))
theorem k109_2 {d : Nat} {L : ab_L} {st : List ab_V} {g : ab_G} {I : ab_I} {J : ab_J} {Q : ab_Q} {x : Option Nat} : ab_E d 109 2 (some (vR x) :: L) st 0 0 g I J Q ↔ ab_E d 109 3 (some (vR x) :: L) (vR x :: st) 0 0 g I J Q := ke_aload_n m109 (show ab_find cd_Arrays_fill 2 = some (2, .aload_n 0, 1, 0, 0, []) from rfl) rfl
theorem k109_3 {d : Nat} {L : ab_L} {st : List ab_V} {g : ab_G} {I : ab_I} {J : ab_J} {Q : ab_Q} {a : Nat} : ab_E d 109 3 L (vR (some a) :: st) 0 0 g I J Q ↔ 0 < ab_ty g a ∧ ab_ty g a < 10 ∧ ab_E d 109 4 L (vI (nI (ab_ln g a)) :: st) 0 0 g I J Q := ke_arraylength m109 (show ab_find cd_Arrays_fill 3 = some (3, .arraylength, 1, 0, 0, []) from rfl)
theorem k109_4 {d : Nat} {L : ab_L} {st : List ab_V} {g : ab_G} {I : ab_I} {J : ab_J} {Q : ab_Q} {x : Int32} {l0 l1 l2 l3 l4 : Option ab_V} : ab_E d 109 4 (l0 :: l1 :: l2 :: l3 :: l4 :: L) (vI x :: st) 0 0 g I J Q ↔ ab_E d 109 6 (l0 :: l1 :: l2 :: ab_inv l3 :: some (vI x) :: L) st 0 0 g I J Q := ke_istore m109 (show ab_find cd_Arrays_fill 4 = some (4, .istore 4, 2, 0, 0, []) from rfl) (Nat.succ_lt_succ (Nat.succ_lt_succ (Nat.succ_lt_succ (Nat.succ_lt_succ (Nat.zero_lt_succ _)))))
theorem k109_6 {d : Nat} {L : ab_L} {st : List ab_V} {g : ab_G} {I : ab_I} {J : ab_J} {Q : ab_Q} {x : Int32} {l0 l1 l2 : Option ab_V} : ab_E d 109 6 (l0 :: l1 :: l2 :: some (vI x) :: L) st 0 0 g I J Q ↔ ab_E d 109 7 (l0 :: l1 :: l2 :: some (vI x) :: L) (vI x :: st) 0 0 g I J Q := ke_iload_n m109 (show ab_find cd_Arrays_fill 6 = some (6, .iload_n 3, 1, 0, 0, []) from rfl) rfl
theorem k109_7 {d : Nat} {L : ab_L} {st : List ab_V} {g : ab_G} {I : ab_I} {J : ab_J} {Q : ab_Q} {x : Int32} {l0 l1 l2 l3 : Option ab_V} : ab_E d 109 7 (l0 :: l1 :: l2 :: l3 :: some (vI x) :: L) st 0 0 g I J Q ↔ ab_E d 109 9 (l0 :: l1 :: l2 :: l3 :: some (vI x) :: L) (vI x :: st) 0 0 g I J Q := ke_iload m109 (show ab_find cd_Arrays_fill 7 = some (7, .iload 4, 2, 0, 0, []) from rfl) rfl
theorem k109_9 {d : Nat} {L : ab_L} {st : List ab_V} {g : ab_G} {I : ab_I} {J : ab_J} {Q : ab_Q} {x y : Int32} : ab_E d 109 9 L (vI y :: vI x :: st) 0 0 g I J Q ↔ if x < y then ab_E d 109 12 L st 0 0 g I J Q else ab_E d 109 22 L st 0 0 g I J Q := ke_icmp_ge m109 (show ab_find cd_Arrays_fill 9 = some (9, .if_icmp .ge 13, 3, 22, 0, []) from rfl)
theorem k109_12 {d : Nat} {L : ab_L} {st : List ab_V} {g : ab_G} {I : ab_I} {J : ab_J} {Q : ab_Q} {x : Option Nat} : ab_E d 109 12 (some (vR x) :: L) st 0 0 g I J Q ↔ ab_E d 109 13 (some (vR x) :: L) (vR x :: st) 0 0 g I J Q := ke_aload_n m109 (show ab_find cd_Arrays_fill 12 = some (12, .aload_n 0, 1, 0, 0, []) from rfl) rfl
theorem k109_13 {d : Nat} {L : ab_L} {st : List ab_V} {g : ab_G} {I : ab_I} {J : ab_J} {Q : ab_Q} {x : Int32} {l0 l1 l2 : Option ab_V} : ab_E d 109 13 (l0 :: l1 :: l2 :: some (vI x) :: L) st 0 0 g I J Q ↔ ab_E d 109 14 (l0 :: l1 :: l2 :: some (vI x) :: L) (vI x :: st) 0 0 g I J Q := ke_iload_n m109 (show ab_find cd_Arrays_fill 13 = some (13, .iload_n 3, 1, 0, 0, []) from rfl) rfl
theorem k109_14 {d : Nat} {L : ab_L} {st : List ab_V} {g : ab_G} {I : ab_I} {J : ab_J} {Q : ab_Q} {x : Int64} {l0 : Option ab_V} : ab_E d 109 14 (l0 :: some (vL x) :: L) st 0 0 g I J Q ↔ ab_E d 109 15 (l0 :: some (vL x) :: L) (vL x :: st) 0 0 g I J Q := ke_lload_n m109 (show ab_find cd_Arrays_fill 14 = some (14, .lload_n 1, 1, 0, 0, []) from rfl) rfl
theorem k109_15 {d : Nat} {L : ab_L} {st : List ab_V} {g : ab_G} {I : ab_I} {J : ab_J} {Q : ab_Q} {a : Nat} {j : Int32} {x : Int64} : ab_E d 109 15 L (vL x :: vI j :: vR (some a) :: st) 0 0 g I J Q ↔ 29 ≤ a ∧ ab_ty g a = 2 ∧ vp_in j (ab_ln g a) ∧ ab_E d 109 16 L st 0 0 g I (ab_up J a j.toNatClampNeg x) Q := ke_lastore m109 (show ab_find cd_Arrays_fill 15 = some (15, .lastore, 1, 0, 0, []) from rfl)
theorem k109_16 {d : Nat} {L : ab_L} {st : List ab_V} {g : ab_G} {I : ab_I} {J : ab_J} {Q : ab_Q} {x : Int32} {l0 l1 l2 : Option ab_V} : ab_E d 109 16 (l0 :: l1 :: l2 :: some (vI x) :: L) st 0 0 g I J Q ↔ ab_E d 109 19 (l0 :: l1 :: ab_inv l2 :: some (vI (x + 1)) :: L) st 0 0 g I J Q := ke_iinc m109 (show ab_find cd_Arrays_fill 16 = some (16, .iinc 3 1, 3, 0, 0, []) from rfl) (Nat.succ_lt_succ (Nat.succ_lt_succ (Nat.succ_lt_succ (Nat.zero_lt_succ _)))) rfl rfl
theorem k109_19 {d : Nat} {L : ab_L} {st : List ab_V} {g : ab_G} {I : ab_I} {J : ab_J} {Q : ab_Q} : ab_E d 109 19 L st 0 0 g I J Q ↔ ab_E d 109 6 L st 0 0 g I J Q := ke_goto m109 (show ab_find cd_Arrays_fill 19 = some (19, .goto (-13), 3, 6, 0, []) from rfl)
theorem k109_22 {d : Nat} {L : ab_L} {g : ab_G} {I : ab_I} {J : ab_J} {Q : ab_Q} : ab_E d 109 22 L [] 0 0 g I J Q ↔ Q none g I J := ab_retz (ke_vret m109 (show ab_find cd_Arrays_fill 22 = some (22, .return_, 1, 0, 0, []) from rfl) b109 r109)
theorem m113 : ab_cdm 113 = cd_Math_max_l := rfl
theorem r113 : ab_rt (ab_meth 113).2.2.2.1 = 2 := rfl
theorem e113 {d : Nat} {a0 : Int64} {a1 : Int64} {g : ab_G} {I : ab_I} {J : ab_J} {Q : ab_Q} : ab_run (d + 1) 113 [vL a0, vL a1] g I J Q ↔ ab_E d 113 0 [some (vL a0), none, some (vL a1), none] [] 0 0 g I J Q := ab_run_ent (by decide) rfl (Nat.le_of_ble_eq_true rfl) rfl
theorem k113_0 {d : Nat} {L : ab_L} {st : List ab_V} {g : ab_G} {I : ab_I} {J : ab_J} {Q : ab_Q} {x : Int64} : ab_E d 113 0 (some (vL x) :: L) st 0 0 g I J Q ↔ ab_E d 113 1 (some (vL x) :: L) (vL x :: st) 0 0 g I J Q := ke_lload_n m113 (show ab_find cd_Math_max_l 0 = some (0, .lload_n 0, 1, 0, 0, []) from rfl) rfl
theorem k113_1 {d : Nat} {L : ab_L} {st : List ab_V} {g : ab_G} {I : ab_I} {J : ab_J} {Q : ab_Q} {x : Int64} {l0 l1 : Option ab_V} : ab_E d 113 1 (l0 :: l1 :: some (vL x) :: L) st 0 0 g I J Q ↔ ab_E d 113 2 (l0 :: l1 :: some (vL x) :: L) (vL x :: st) 0 0 g I J Q := ke_lload_n m113 (show ab_find cd_Math_max_l 1 = some (1, .lload_n 2, 1, 0, 0, []) from rfl) rfl
theorem k113_2 {d : Nat} {L : ab_L} {st : List ab_V} {g : ab_G} {I : ab_I} {J : ab_J} {Q : ab_Q} {x y : Int64} : ab_E d 113 2 L (vL y :: vL x :: st) 0 0 g I J Q ↔ ab_E d 113 3 L (vI (lg_cmp x y) :: st) 0 0 g I J Q := ke_lcmp m113 (show ab_find cd_Math_max_l 2 = some (2, .lcmp, 1, 0, 0, []) from rfl)
theorem k113_3 {d : Nat} {L : ab_L} {st : List ab_V} {g : ab_G} {I : ab_I} {J : ab_J} {Q : ab_Q} {x : Int32} : ab_E d 113 3 L (vI x :: st) 0 0 g I J Q ↔ if x < 0 then ab_E d 113 10 L st 0 0 g I J Q else ab_E d 113 6 L st 0 0 g I J Q := ke_if_lt m113 (show ab_find cd_Math_max_l 3 = some (3, .ifCond .lt 7, 3, 10, 0, []) from rfl)
theorem k113_6 {d : Nat} {L : ab_L} {st : List ab_V} {g : ab_G} {I : ab_I} {J : ab_J} {Q : ab_Q} {x : Int64} : ab_E d 113 6 (some (vL x) :: L) st 0 0 g I J Q ↔ ab_E d 113 7 (some (vL x) :: L) (vL x :: st) 0 0 g I J Q := ke_lload_n m113 (show ab_find cd_Math_max_l 6 = some (6, .lload_n 0, 1, 0, 0, []) from rfl) rfl
theorem k113_7 {d : Nat} {L : ab_L} {st : List ab_V} {g : ab_G} {I : ab_I} {J : ab_J} {Q : ab_Q} : ab_E d 113 7 L st 0 0 g I J Q ↔ ab_E d 113 11 L st 0 0 g I J Q := ke_goto m113 (show ab_find cd_Math_max_l 7 = some (7, .goto 4, 3, 11, 0, []) from rfl)
theorem k113_10 {d : Nat} {L : ab_L} {st : List ab_V} {g : ab_G} {I : ab_I} {J : ab_J} {Q : ab_Q} {x : Int64} {l0 l1 : Option ab_V} : ab_E d 113 10 (l0 :: l1 :: some (vL x) :: L) st 0 0 g I J Q ↔ ab_E d 113 11 (l0 :: l1 :: some (vL x) :: L) (vL x :: st) 0 0 g I J Q := ke_lload_n m113 (show ab_find cd_Math_max_l 10 = some (10, .lload_n 2, 1, 0, 0, []) from rfl) rfl
theorem k113_11 {d : Nat} {L : ab_L} {g : ab_G} {I : ab_I} {J : ab_J} {Q : ab_Q} {x : Int64} : ab_E d 113 11 L [vL x] 0 0 g I J Q ↔ Q (some (vL x)) g I J := ab_retz (ke_lret m113 (show ab_find cd_Math_max_l 11 = some (11, .lreturn, 1, 0, 0, []) from rfl) b113 r113)
theorem m131 : ab_cdm 131 = cd_Long_compare := rfl
theorem r131 : ab_rt (ab_meth 131).2.2.2.1 = 1 := rfl
theorem e131 {d : Nat} {a0 : Int64} {a1 : Int64} {g : ab_G} {I : ab_I} {J : ab_J} {Q : ab_Q} : ab_run (d + 1) 131 [vL a0, vL a1] g I J Q ↔ ab_E d 131 0 [some (vL a0), none, some (vL a1), none] [] 0 0 g I J Q := ab_run_ent (by decide) rfl (Nat.le_of_ble_eq_true rfl) rfl
theorem k131_0 {d : Nat} {L : ab_L} {st : List ab_V} {g : ab_G} {I : ab_I} {J : ab_J} {Q : ab_Q} {x : Int64} : ab_E d 131 0 (some (vL x) :: L) st 0 0 g I J Q ↔ ab_E d 131 1 (some (vL x) :: L) (vL x :: st) 0 0 g I J Q := ke_lload_n m131 (show ab_find cd_Long_compare 0 = some (0, .lload_n 0, 1, 0, 0, []) from rfl) rfl
theorem k131_1 {d : Nat} {L : ab_L} {st : List ab_V} {g : ab_G} {I : ab_I} {J : ab_J} {Q : ab_Q} {x : Int64} {l0 l1 : Option ab_V} : ab_E d 131 1 (l0 :: l1 :: some (vL x) :: L) st 0 0 g I J Q ↔ ab_E d 131 2 (l0 :: l1 :: some (vL x) :: L) (vL x :: st) 0 0 g I J Q := ke_lload_n m131 (show ab_find cd_Long_compare 1 = some (1, .lload_n 2, 1, 0, 0, []) from rfl) rfl
theorem k131_2 {d : Nat} {L : ab_L} {st : List ab_V} {g : ab_G} {I : ab_I} {J : ab_J} {Q : ab_Q} {x y : Int64} : ab_E d 131 2 L (vL y :: vL x :: st) 0 0 g I J Q ↔ ab_E d 131 3 L (vI (lg_cmp x y) :: st) 0 0 g I J Q := ke_lcmp m131 (show ab_find cd_Long_compare 2 = some (2, .lcmp, 1, 0, 0, []) from rfl)
theorem k131_3 {d : Nat} {L : ab_L} {st : List ab_V} {g : ab_G} {I : ab_I} {J : ab_J} {Q : ab_Q} {x : Int32} : ab_E d 131 3 L (vI x :: st) 0 0 g I J Q ↔ if x < 0 then ab_E d 131 6 L st 0 0 g I J Q else ab_E d 131 10 L st 0 0 g I J Q := ke_if_ge m131 (show ab_find cd_Long_compare 3 = some (3, .ifCond .ge 7, 3, 10, 0, []) from rfl)
theorem k131_6 {d : Nat} {L : ab_L} {st : List ab_V} {g : ab_G} {I : ab_I} {J : ab_J} {Q : ab_Q} : ab_E d 131 6 L st 0 0 g I J Q ↔ ab_E d 131 7 L (vI (-1) :: st) 0 0 g I J Q := ke_iconst m131 (show ab_find cd_Long_compare 6 = some (6, .iconst (-1), 1, 0, 0, []) from rfl) rfl
theorem k131_7 {d : Nat} {L : ab_L} {st : List ab_V} {g : ab_G} {I : ab_I} {J : ab_J} {Q : ab_Q} : ab_E d 131 7 L st 0 0 g I J Q ↔ ab_E d 131 21 L st 0 0 g I J Q := ke_goto m131 (show ab_find cd_Long_compare 7 = some (7, .goto 14, 3, 21, 0, []) from rfl)
theorem k131_10 {d : Nat} {L : ab_L} {st : List ab_V} {g : ab_G} {I : ab_I} {J : ab_J} {Q : ab_Q} {x : Int64} : ab_E d 131 10 (some (vL x) :: L) st 0 0 g I J Q ↔ ab_E d 131 11 (some (vL x) :: L) (vL x :: st) 0 0 g I J Q := ke_lload_n m131 (show ab_find cd_Long_compare 10 = some (10, .lload_n 0, 1, 0, 0, []) from rfl) rfl
theorem k131_11 {d : Nat} {L : ab_L} {st : List ab_V} {g : ab_G} {I : ab_I} {J : ab_J} {Q : ab_Q} {x : Int64} {l0 l1 : Option ab_V} : ab_E d 131 11 (l0 :: l1 :: some (vL x) :: L) st 0 0 g I J Q ↔ ab_E d 131 12 (l0 :: l1 :: some (vL x) :: L) (vL x :: st) 0 0 g I J Q := ke_lload_n m131 (show ab_find cd_Long_compare 11 = some (11, .lload_n 2, 1, 0, 0, []) from rfl) rfl
theorem k131_12 {d : Nat} {L : ab_L} {st : List ab_V} {g : ab_G} {I : ab_I} {J : ab_J} {Q : ab_Q} {x y : Int64} : ab_E d 131 12 L (vL y :: vL x :: st) 0 0 g I J Q ↔ ab_E d 131 13 L (vI (lg_cmp x y) :: st) 0 0 g I J Q := ke_lcmp m131 (show ab_find cd_Long_compare 12 = some (12, .lcmp, 1, 0, 0, []) from rfl)
theorem k131_13 {d : Nat} {L : ab_L} {st : List ab_V} {g : ab_G} {I : ab_I} {J : ab_J} {Q : ab_Q} {x : Int32} : ab_E d 131 13 L (vI x :: st) 0 0 g I J Q ↔ if x = 0 then ab_E d 131 16 L st 0 0 g I J Q else ab_E d 131 20 L st 0 0 g I J Q := ke_if_ne m131 (show ab_find cd_Long_compare 13 = some (13, .ifCond .ne 7, 3, 20, 0, []) from rfl)
theorem k131_16 {d : Nat} {L : ab_L} {st : List ab_V} {g : ab_G} {I : ab_I} {J : ab_J} {Q : ab_Q} : ab_E d 131 16 L st 0 0 g I J Q ↔ ab_E d 131 17 L (vI 0 :: st) 0 0 g I J Q := ke_iconst m131 (show ab_find cd_Long_compare 16 = some (16, .iconst 0, 1, 0, 0, []) from rfl) rfl
theorem k131_17 {d : Nat} {L : ab_L} {st : List ab_V} {g : ab_G} {I : ab_I} {J : ab_J} {Q : ab_Q} : ab_E d 131 17 L st 0 0 g I J Q ↔ ab_E d 131 21 L st 0 0 g I J Q := ke_goto m131 (show ab_find cd_Long_compare 17 = some (17, .goto 4, 3, 21, 0, []) from rfl)
theorem k131_20 {d : Nat} {L : ab_L} {st : List ab_V} {g : ab_G} {I : ab_I} {J : ab_J} {Q : ab_Q} : ab_E d 131 20 L st 0 0 g I J Q ↔ ab_E d 131 21 L (vI 1 :: st) 0 0 g I J Q := ke_iconst m131 (show ab_find cd_Long_compare 20 = some (20, .iconst 1, 1, 0, 0, []) from rfl) rfl
theorem k131_21 {d : Nat} {L : ab_L} {g : ab_G} {I : ab_I} {J : ab_J} {Q : ab_Q} {x : Int32} : ab_E d 131 21 L [vI x] 0 0 g I J Q ↔ Q (some (vI x)) g I J := ab_ret1z (ke_iret m131 (show ab_find cd_Long_compare 21 = some (21, .ireturn, 1, 0, 0, []) from rfl) b131 r131)
theorem m210 : ab_cdm 210 = cd_Math_min_l := rfl
theorem r210 : ab_rt (ab_meth 210).2.2.2.1 = 2 := rfl
theorem e210 {d : Nat} {a0 : Int64} {a1 : Int64} {g : ab_G} {I : ab_I} {J : ab_J} {Q : ab_Q} : ab_run (d + 1) 210 [vL a0, vL a1] g I J Q ↔ ab_E d 210 0 [some (vL a0), none, some (vL a1), none] [] 0 0 g I J Q := ab_run_ent (by decide) rfl (Nat.le_of_ble_eq_true rfl) rfl
theorem k210_0 {d : Nat} {L : ab_L} {st : List ab_V} {g : ab_G} {I : ab_I} {J : ab_J} {Q : ab_Q} {x : Int64} : ab_E d 210 0 (some (vL x) :: L) st 0 0 g I J Q ↔ ab_E d 210 1 (some (vL x) :: L) (vL x :: st) 0 0 g I J Q := ke_lload_n m210 (show ab_find cd_Math_min_l 0 = some (0, .lload_n 0, 1, 0, 0, []) from rfl) rfl
theorem k210_1 {d : Nat} {L : ab_L} {st : List ab_V} {g : ab_G} {I : ab_I} {J : ab_J} {Q : ab_Q} {x : Int64} {l0 l1 : Option ab_V} : ab_E d 210 1 (l0 :: l1 :: some (vL x) :: L) st 0 0 g I J Q ↔ ab_E d 210 2 (l0 :: l1 :: some (vL x) :: L) (vL x :: st) 0 0 g I J Q := ke_lload_n m210 (show ab_find cd_Math_min_l 1 = some (1, .lload_n 2, 1, 0, 0, []) from rfl) rfl
theorem k210_2 {d : Nat} {L : ab_L} {st : List ab_V} {g : ab_G} {I : ab_I} {J : ab_J} {Q : ab_Q} {x y : Int64} : ab_E d 210 2 L (vL y :: vL x :: st) 0 0 g I J Q ↔ ab_E d 210 3 L (vI (lg_cmp x y) :: st) 0 0 g I J Q := ke_lcmp m210 (show ab_find cd_Math_min_l 2 = some (2, .lcmp, 1, 0, 0, []) from rfl)
theorem k210_3 {d : Nat} {L : ab_L} {st : List ab_V} {g : ab_G} {I : ab_I} {J : ab_J} {Q : ab_Q} {x : Int32} : ab_E d 210 3 L (vI x :: st) 0 0 g I J Q ↔ if 0 < x then ab_E d 210 10 L st 0 0 g I J Q else ab_E d 210 6 L st 0 0 g I J Q := ke_if_gt m210 (show ab_find cd_Math_min_l 3 = some (3, .ifCond .gt 7, 3, 10, 0, []) from rfl)
theorem k210_6 {d : Nat} {L : ab_L} {st : List ab_V} {g : ab_G} {I : ab_I} {J : ab_J} {Q : ab_Q} {x : Int64} : ab_E d 210 6 (some (vL x) :: L) st 0 0 g I J Q ↔ ab_E d 210 7 (some (vL x) :: L) (vL x :: st) 0 0 g I J Q := ke_lload_n m210 (show ab_find cd_Math_min_l 6 = some (6, .lload_n 0, 1, 0, 0, []) from rfl) rfl
theorem k210_7 {d : Nat} {L : ab_L} {st : List ab_V} {g : ab_G} {I : ab_I} {J : ab_J} {Q : ab_Q} : ab_E d 210 7 L st 0 0 g I J Q ↔ ab_E d 210 11 L st 0 0 g I J Q := ke_goto m210 (show ab_find cd_Math_min_l 7 = some (7, .goto 4, 3, 11, 0, []) from rfl)
theorem k210_10 {d : Nat} {L : ab_L} {st : List ab_V} {g : ab_G} {I : ab_I} {J : ab_J} {Q : ab_Q} {x : Int64} {l0 l1 : Option ab_V} : ab_E d 210 10 (l0 :: l1 :: some (vL x) :: L) st 0 0 g I J Q ↔ ab_E d 210 11 (l0 :: l1 :: some (vL x) :: L) (vL x :: st) 0 0 g I J Q := ke_lload_n m210 (show ab_find cd_Math_min_l 10 = some (10, .lload_n 2, 1, 0, 0, []) from rfl) rfl
theorem k210_11 {d : Nat} {L : ab_L} {g : ab_G} {I : ab_I} {J : ab_J} {Q : ab_Q} {x : Int64} : ab_E d 210 11 L [vL x] 0 0 g I J Q ↔ Q (some (vL x)) g I J := ab_retz (ke_lret m210 (show ab_find cd_Math_min_l 11 = some (11, .lreturn, 1, 0, 0, []) from rfl) b210 r210)
