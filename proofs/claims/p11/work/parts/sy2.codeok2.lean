theorem xk_cd_c0 {r : Nat} (hr : r < 20) (h1 : 0 + r < 317) : ∀ pc i, (xt_code (0 + r)).lookup pc = some i → xx_dec (xt_bt (0 + r)) pc i := by
  match r, hr, h1 with
  | 0, _, _ => exact fun pc i h => xk_code_ok xk_c0 h
  | 1, _, _ => exact fun pc i h => xk_code_ok xk_c1 h
  | 2, _, _ => exact fun pc i h => xk_code_ok xk_c2 h
  | 3, _, _ => exact fun pc i h => xk_code_ok xk_c3 h
  | 4, _, _ => exact fun pc i h => xk_code_ok xk_c4 h
  | 5, _, _ => exact fun pc i h => xk_code_ok xk_c5 h
  | 6, _, _ => exact fun pc i h => xk_code_ok xk_c6 h
  | 7, _, _ => exact fun pc i h => xk_code_ok xk_c7 h
  | 8, _, _ => exact fun pc i h => xk_code_ok xk_c8 h
  | 9, _, _ => exact fun pc i h => xk_code_ok xk_c9 h
  | 10, _, _ => exact fun pc i h => xk_code_ok xk_c10 h
  | 11, _, _ => exact fun pc i h => xk_code_ok xk_c11 h
  | 12, _, _ => exact fun pc i h => xk_code_ok xk_c12 h
  | 13, _, _ => exact fun pc i h => xk_code_ok xk_c13 h
  | 14, _, _ => exact fun pc i h => xk_code_ok xk_c14 h
  | 15, _, _ => exact fun pc i h => xk_code_ok xk_c15 h
  | 16, _, _ => exact fun pc i h => xk_code_ok xk_c16 h
  | 17, _, _ => exact fun pc i h => xk_code_ok xk_c17 h
  | 18, _, _ => exact fun pc i h => xk_code_ok xk_c18 h
  | 19, _, _ => exact fun pc i h => xk_code_ok xk_c19 h
  | r + 20, h, _ => exact absurd h (by omega)
theorem xk_cd_c1 {r : Nat} (hr : r < 20) (h1 : 20 + r < 317) : ∀ pc i, (xt_code (20 + r)).lookup pc = some i → xx_dec (xt_bt (20 + r)) pc i := by
  match r, hr, h1 with
  | 0, _, _ => exact fun pc i h => xk_code_ok xk_c20 h
  | 1, _, _ => exact fun pc i h => xk_code_ok xk_c21 h
  | 2, _, _ => exact fun pc i h => xk_code_ok xk_c22 h
  | 3, _, _ => exact fun pc i h => xk_code_ok xk_c23 h
  | 4, _, _ => exact fun pc i h => xk_code_ok xk_c24 h
  | 5, _, _ => exact fun pc i h => xk_code_ok xk_c25 h
  | 6, _, _ => exact fun pc i h => xk_code_ok xk_c26 h
  | 7, _, _ => exact fun pc i h => xk_code_ok xk_c27 h
  | 8, _, _ => exact fun pc i h => xk_code_ok xk_c28 h
  | 9, _, _ => exact fun pc i h => xk_code_ok xk_c29 h
  | 10, _, _ => exact fun pc i h => xk_code_ok xk_c30 h
  | 11, _, _ => exact fun pc i h => xk_code_ok xk_c31 h
  | 12, _, _ => exact fun pc i h => xk_code_ok xk_c32 h
  | 13, _, _ => exact fun pc i h => xk_code_ok xk_c33 h
  | 14, _, _ => exact fun pc i h => xk_code_ok xk_c34 h
  | 15, _, _ => exact fun pc i h => xk_code_ok xk_c35 h
  | 16, _, _ => exact fun pc i h => xk_code_ok xk_c36 h
  | 17, _, _ => exact fun pc i h => xk_code_ok xk_c37 h
  | 18, _, _ => exact fun pc i h => xk_code_ok xk_c38 h
  | 19, _, _ => exact fun pc i h => xk_code_ok xk_c39 h
  | r + 20, h, _ => exact absurd h (by omega)
theorem xk_cd_c2 {r : Nat} (hr : r < 20) (h1 : 40 + r < 317) : ∀ pc i, (xt_code (40 + r)).lookup pc = some i → xx_dec (xt_bt (40 + r)) pc i := by
  match r, hr, h1 with
  | 0, _, _ => exact fun pc i h => xk_code_ok xk_c40 h
  | 1, _, _ => exact fun pc i h => xk_code_ok xk_c41 h
  | 2, _, _ => exact fun pc i h => xk_code_ok xk_c42 h
  | 3, _, _ => exact fun pc i h => xk_code_ok xk_c43 h
  | 4, _, _ => exact fun pc i h => xk_code_ok xk_c44 h
  | 5, _, _ => exact fun pc i h => xk_code_ok xk_c45 h
  | 6, _, _ => exact fun pc i h => xk_code_ok xk_c46 h
  | 7, _, _ => exact fun pc i h => xk_code_ok xk_c47 h
  | 8, _, _ => exact fun pc i h => xk_code_ok xk_c48 h
  | 9, _, _ => exact fun pc i h => xk_code_ok xk_c49 h
  | 10, _, _ => exact fun pc i h => xk_code_ok xk_c50 h
  | 11, _, _ => exact fun pc i h => xk_code_ok xk_c51 h
  | 12, _, _ => exact fun pc i h => xk_code_ok xk_c52 h
  | 13, _, _ => exact fun pc i h => xk_code_ok xk_c53 h
  | 14, _, _ => exact fun pc i h => xk_code_ok xk_c54 h
  | 15, _, _ => exact fun pc i h => xk_code_ok xk_c55 h
  | 16, _, _ => exact fun pc i h => xk_code_ok xk_c56 h
  | 17, _, _ => exact fun pc i h => xk_code_ok xk_c57 h
  | 18, _, _ => exact fun pc i h => xk_code_ok xk_c58 h
  | 19, _, _ => exact fun pc i h => xk_code_ok xk_c59 h
  | r + 20, h, _ => exact absurd h (by omega)
theorem xk_cd_c3 {r : Nat} (hr : r < 20) (h1 : 60 + r < 317) : ∀ pc i, (xt_code (60 + r)).lookup pc = some i → xx_dec (xt_bt (60 + r)) pc i := by
  match r, hr, h1 with
  | 0, _, _ => exact fun pc i h => xk_code_ok xk_c60 h
  | 1, _, _ => exact fun pc i h => xk_code_ok xk_c61 h
  | 2, _, _ => exact fun pc i h => xk_code_ok xk_c62 h
  | 3, _, _ => exact fun pc i h => xk_code_ok xk_c63 h
  | 4, _, _ => exact fun pc i h => xk_code_ok xk_c64 h
  | 5, _, _ => exact fun pc i h => xk_code_ok xk_c65 h
  | 6, _, _ => exact fun pc i h => xk_code_ok xk_c66 h
  | 7, _, _ => exact fun pc i h => xk_code_ok xk_c67 h
  | 8, _, _ => exact fun pc i h => xk_code_ok xk_c68 h
  | 9, _, _ => exact fun pc i h => xk_code_ok xk_c69 h
  | 10, _, _ => exact fun pc i h => xk_code_ok xk_c70 h
  | 11, _, _ => exact fun pc i h => xk_code_ok xk_c71 h
  | 12, _, _ => exact fun pc i h => xk_code_ok xk_c72 h
  | 13, _, _ => exact fun pc i h => xk_code_ok xk_c73 h
  | 14, _, _ => exact fun pc i h => xk_code_ok xk_c74 h
  | 15, _, _ => exact fun pc i h => xk_code_ok xk_c75 h
  | 16, _, _ => exact fun pc i h => xk_code_ok xk_c76 h
  | 17, _, _ => exact fun pc i h => xk_code_ok xk_c77 h
  | 18, _, _ => exact fun pc i h => xk_code_ok xk_c78 h
  | 19, _, _ => exact fun pc i h => xk_code_ok xk_c79 h
  | r + 20, h, _ => exact absurd h (by omega)
theorem xk_cd_c4 {r : Nat} (hr : r < 20) (h1 : 80 + r < 317) : ∀ pc i, (xt_code (80 + r)).lookup pc = some i → xx_dec (xt_bt (80 + r)) pc i := by
  match r, hr, h1 with
  | 0, _, _ => exact fun pc i h => xk_code_ok xk_c80 h
  | 1, _, _ => exact fun pc i h => xk_code_ok xk_c81 h
  | 2, _, _ => exact fun pc i h => xk_code_ok xk_c82 h
  | 3, _, _ => exact fun pc i h => xk_code_ok xk_c83 h
  | 4, _, _ => exact fun pc i h => xk_code_ok xk_c84 h
  | 5, _, _ => exact fun pc i h => xk_code_ok xk_c85 h
  | 6, _, _ => exact fun pc i h => xk_code_ok xk_c86 h
  | 7, _, _ => exact fun pc i h => xk_code_ok xk_c87 h
  | 8, _, _ => exact fun pc i h => xk_code_ok xk_c88 h
  | 9, _, _ => exact fun pc i h => xk_code_ok xk_c89 h
  | 10, _, _ => exact fun pc i h => xk_code_ok xk_c90 h
  | 11, _, _ => exact fun pc i h => xk_code_ok xk_c91 h
  | 12, _, _ => exact fun pc i h => xk_code_ok xk_c92 h
  | 13, _, _ => exact fun pc i h => xk_code_ok xk_c93 h
  | 14, _, _ => exact fun pc i h => xk_code_ok xk_c94 h
  | 15, _, _ => exact fun pc i h => xk_code_ok xk_c95 h
  | 16, _, _ => exact fun pc i h => xk_code_ok xk_c96 h
  | 17, _, _ => exact fun pc i h => xk_code_ok xk_c97 h
  | 18, _, _ => exact fun pc i h => xk_code_ok xk_c98 h
  | 19, _, _ => exact fun pc i h => xk_code_ok xk_c99 h
  | r + 20, h, _ => exact absurd h (by omega)
theorem xk_cd_c5 {r : Nat} (hr : r < 20) (h1 : 100 + r < 317) : ∀ pc i, (xt_code (100 + r)).lookup pc = some i → xx_dec (xt_bt (100 + r)) pc i := by
  match r, hr, h1 with
  | 0, _, _ => exact fun pc i h => xk_code_ok xk_c100 h
  | 1, _, _ => exact fun pc i h => xk_code_ok xk_c101 h
  | 2, _, _ => exact fun pc i h => xk_code_ok xk_c102 h
  | 3, _, _ => exact fun pc i h => xk_code_ok xk_c103 h
  | 4, _, _ => exact fun pc i h => xk_code_ok xk_c104 h
  | 5, _, _ => exact fun pc i h => xk_code_ok xk_c105 h
  | 6, _, _ => exact fun pc i h => xk_code_ok xk_c106 h
  | 7, _, _ => exact fun pc i h => xk_code_ok xk_c107 h
  | 8, _, _ => exact fun pc i h => xk_code_ok xk_c108 h
  | 9, _, _ => exact fun pc i h => xk_code_ok xk_c109 h
  | 10, _, _ => exact fun pc i h => xk_code_ok xk_c110 h
  | 11, _, _ => exact fun pc i h => xk_code_ok xk_c111 h
  | 12, _, _ => exact fun pc i h => xk_code_ok xk_c112 h
  | 13, _, _ => exact fun pc i h => xk_code_ok xk_c113 h
  | 14, _, _ => exact fun pc i h => xk_code_ok xk_c114 h
  | 15, _, _ => exact fun pc i h => xk_code_ok xk_c115 h
  | 16, _, _ => exact fun pc i h => xk_code_ok xk_c116 h
  | 17, _, _ => exact fun pc i h => xk_code_ok xk_c117 h
  | 18, _, _ => exact fun pc i h => xk_code_ok xk_c118 h
  | 19, _, _ => exact fun pc i h => xk_code_ok xk_c119 h
  | r + 20, h, _ => exact absurd h (by omega)
theorem xk_cd_c6 {r : Nat} (hr : r < 20) (h1 : 120 + r < 317) : ∀ pc i, (xt_code (120 + r)).lookup pc = some i → xx_dec (xt_bt (120 + r)) pc i := by
  match r, hr, h1 with
  | 0, _, _ => exact fun pc i h => xk_code_ok xk_c120 h
  | 1, _, _ => exact fun pc i h => xk_code_ok xk_c121 h
  | 2, _, _ => exact fun pc i h => xk_code_ok xk_c122 h
  | 3, _, _ => exact fun pc i h => xk_code_ok xk_c123 h
  | 4, _, _ => exact fun pc i h => xk_code_ok xk_c124 h
  | 5, _, _ => exact fun pc i h => xk_code_ok xk_c125 h
  | 6, _, _ => exact fun pc i h => xk_code_ok xk_c126 h
  | 7, _, _ => exact fun pc i h => xk_code_ok xk_c127 h
  | 8, _, _ => exact fun pc i h => xk_code_ok xk_c128 h
  | 9, _, _ => exact fun pc i h => xk_code_ok xk_c129 h
  | 10, _, _ => exact fun pc i h => xk_code_ok xk_c130 h
  | 11, _, _ => exact fun pc i h => xk_code_ok xk_c131 h
  | 12, _, _ => exact fun pc i h => xk_code_ok xk_c132 h
  | 13, _, _ => exact fun pc i h => xk_code_ok xk_c133 h
  | 14, _, _ => exact fun pc i h => xk_code_ok xk_c134 h
  | 15, _, _ => exact fun pc i h => xk_code_ok xk_c135 h
  | 16, _, _ => exact fun pc i h => xk_code_ok xk_c136 h
  | 17, _, _ => exact fun pc i h => xk_code_ok xk_c137 h
  | 18, _, _ => exact fun pc i h => xk_code_ok xk_c138 h
  | 19, _, _ => exact fun pc i h => xk_code_ok xk_c139 h
  | r + 20, h, _ => exact absurd h (by omega)
theorem xk_cd_c7 {r : Nat} (hr : r < 20) (h1 : 140 + r < 317) : ∀ pc i, (xt_code (140 + r)).lookup pc = some i → xx_dec (xt_bt (140 + r)) pc i := by
  match r, hr, h1 with
  | 0, _, _ => exact fun pc i h => xk_code_ok xk_c140 h
  | 1, _, _ => exact fun pc i h => xk_code_ok xk_c141 h
  | 2, _, _ => exact fun pc i h => xk_code_ok xk_c142 h
  | 3, _, _ => exact fun pc i h => xk_code_ok xk_c143 h
  | 4, _, _ => exact fun pc i h => xk_code_ok xk_c144 h
  | 5, _, _ => exact fun pc i h => xk_code_ok xk_c145 h
  | 6, _, _ => exact fun pc i h => xk_code_ok xk_c146 h
  | 7, _, _ => exact fun pc i h => xk_code_ok xk_c147 h
  | 8, _, _ => exact fun pc i h => xk_code_ok xk_c148 h
  | 9, _, _ => exact fun pc i h => xk_code_ok xk_c149 h
  | 10, _, _ => exact fun pc i h => xk_code_ok xk_c150 h
  | 11, _, _ => exact fun pc i h => xk_code_ok xk_c151 h
  | 12, _, _ => exact fun pc i h => xk_code_ok xk_c152 h
  | 13, _, _ => exact fun pc i h => xk_code_ok xk_c153 h
  | 14, _, _ => exact fun pc i h => xk_code_ok xk_c154 h
  | 15, _, _ => exact fun pc i h => xk_code_ok xk_c155 h
  | 16, _, _ => exact fun pc i h => xk_code_ok xk_c156 h
  | 17, _, _ => exact fun pc i h => xk_code_ok xk_c157 h
  | 18, _, _ => exact fun pc i h => xk_code_ok xk_c158 h
  | 19, _, _ => exact fun pc i h => xk_code_ok xk_c159 h
  | r + 20, h, _ => exact absurd h (by omega)
theorem xk_cd_c8 {r : Nat} (hr : r < 20) (h1 : 160 + r < 317) : ∀ pc i, (xt_code (160 + r)).lookup pc = some i → xx_dec (xt_bt (160 + r)) pc i := by
  match r, hr, h1 with
  | 0, _, _ => exact fun pc i h => xk_code_ok xk_c160 h
  | 1, _, _ => exact fun pc i h => xk_code_ok xk_c161 h
  | 2, _, _ => exact fun pc i h => xk_code_ok xk_c162 h
  | 3, _, _ => exact fun pc i h => xk_code_ok xk_c163 h
  | 4, _, _ => exact fun pc i h => xk_code_ok xk_c164 h
  | 5, _, _ => exact fun pc i h => xk_code_ok xk_c165 h
  | 6, _, _ => exact fun pc i h => xk_code_ok xk_c166 h
  | 7, _, _ => exact fun pc i h => xk_code_ok xk_c167 h
  | 8, _, _ => exact fun pc i h => xk_code_ok xk_c168 h
  | 9, _, _ => exact fun pc i h => xk_code_ok xk_c169 h
  | 10, _, _ => exact fun pc i h => xk_code_ok xk_c170 h
  | 11, _, _ => exact fun pc i h => xk_code_ok xk_c171 h
  | 12, _, _ => exact fun pc i h => xk_code_ok xk_c172 h
  | 13, _, _ => exact fun pc i h => xk_code_ok xk_c173 h
  | 14, _, _ => exact fun pc i h => xk_code_ok xk_c174 h
  | 15, _, _ => exact fun pc i h => xk_code_ok xk_c175 h
  | 16, _, _ => exact fun pc i h => xk_code_ok xk_c176 h
  | 17, _, _ => exact fun pc i h => xk_code_ok xk_c177 h
  | 18, _, _ => exact fun pc i h => xk_code_ok xk_c178 h
  | 19, _, _ => exact fun pc i h => xk_code_ok xk_c179 h
  | r + 20, h, _ => exact absurd h (by omega)
theorem xk_cd_c9 {r : Nat} (hr : r < 20) (h1 : 180 + r < 317) : ∀ pc i, (xt_code (180 + r)).lookup pc = some i → xx_dec (xt_bt (180 + r)) pc i := by
  match r, hr, h1 with
  | 0, _, _ => exact fun pc i h => xk_code_ok xk_c180 h
  | 1, _, _ => exact fun pc i h => xk_code_ok xk_c181 h
  | 2, _, _ => exact fun pc i h => xk_code_ok xk_c182 h
  | 3, _, _ => exact fun pc i h => xk_code_ok xk_c183 h
  | 4, _, _ => exact fun pc i h => xk_code_ok xk_c184 h
  | 5, _, _ => exact fun pc i h => xk_code_ok xk_c185 h
  | 6, _, _ => exact fun pc i h => xk_code_ok xk_c186 h
  | 7, _, _ => exact fun pc i h => xk_code_ok xk_c187 h
  | 8, _, _ => exact fun pc i h => xk_code_ok xk_c188 h
  | 9, _, _ => exact fun pc i h => xk_code_ok xk_c189 h
  | 10, _, _ => exact fun pc i h => xk_code_ok xk_c190 h
  | 11, _, _ => exact fun pc i h => xk_code_ok xk_c191 h
  | 12, _, _ => exact fun pc i h => xk_code_ok xk_c192 h
  | 13, _, _ => exact fun pc i h => xk_code_ok xk_c193 h
  | 14, _, _ => exact fun pc i h => xk_code_ok xk_c194 h
  | 15, _, _ => exact fun pc i h => xk_code_ok xk_c195 h
  | 16, _, _ => exact fun pc i h => xk_code_ok xk_c196 h
  | 17, _, _ => exact fun pc i h => xk_code_ok xk_c197 h
  | 18, _, _ => exact fun pc i h => xk_code_ok xk_c198 h
  | 19, _, _ => exact fun pc i h => xk_code_ok xk_c199 h
  | r + 20, h, _ => exact absurd h (by omega)
theorem xk_cd_c10 {r : Nat} (hr : r < 20) (h1 : 200 + r < 317) : ∀ pc i, (xt_code (200 + r)).lookup pc = some i → xx_dec (xt_bt (200 + r)) pc i := by
  match r, hr, h1 with
  | 0, _, _ => exact fun pc i h => xk_code_ok xk_c200 h
  | 1, _, _ => exact fun pc i h => xk_code_ok xk_c201 h
  | 2, _, _ => exact fun pc i h => xk_code_ok xk_c202 h
  | 3, _, _ => exact fun pc i h => xk_code_ok xk_c203 h
  | 4, _, _ => exact fun pc i h => xk_code_ok xk_c204 h
  | 5, _, _ => exact fun pc i h => xk_code_ok xk_c205 h
  | 6, _, _ => exact fun pc i h => xk_code_ok xk_c206 h
  | 7, _, _ => exact fun pc i h => xk_code_ok xk_c207 h
  | 8, _, _ => exact fun pc i h => xk_code_ok xk_c208 h
  | 9, _, _ => exact fun pc i h => xk_code_ok xk_c209 h
  | 10, _, _ => exact fun pc i h => xk_code_ok xk_c210 h
  | 11, _, _ => exact fun pc i h => xk_code_ok xk_c211 h
  | 12, _, _ => exact fun pc i h => xk_code_ok xk_c212 h
  | 13, _, _ => exact fun pc i h => xk_code_ok xk_c213 h
  | 14, _, _ => exact fun pc i h => xk_code_ok xk_c214 h
  | 15, _, _ => exact fun pc i h => xk_code_ok xk_c215 h
  | 16, _, _ => exact fun pc i h => xk_code_ok xk_c216 h
  | 17, _, _ => exact fun pc i h => xk_code_ok xk_c217 h
  | 18, _, _ => exact fun pc i h => xk_code_ok xk_c218 h
  | 19, _, _ => exact fun pc i h => xk_code_ok xk_c219 h
  | r + 20, h, _ => exact absurd h (by omega)
theorem xk_cd_c11 {r : Nat} (hr : r < 20) (h1 : 220 + r < 317) : ∀ pc i, (xt_code (220 + r)).lookup pc = some i → xx_dec (xt_bt (220 + r)) pc i := by
  match r, hr, h1 with
  | 0, _, _ => exact fun pc i h => xk_code_ok xk_c220 h
  | 1, _, _ => exact fun pc i h => xk_code_ok xk_c221 h
  | 2, _, _ => exact fun pc i h => xk_code_ok xk_c222 h
  | 3, _, _ => exact fun pc i h => xk_code_ok xk_c223 h
  | 4, _, _ => exact fun pc i h => xk_code_ok xk_c224 h
  | 5, _, _ => exact fun pc i h => xk_code_ok xk_c225 h
  | 6, _, _ => exact fun pc i h => xk_code_ok xk_c226 h
  | 7, _, _ => exact fun pc i h => xk_code_ok xk_c227 h
  | 8, _, _ => exact fun pc i h => xk_code_ok xk_c228 h
  | 9, _, _ => exact fun pc i h => xk_code_ok xk_c229 h
  | 10, _, _ => exact fun pc i h => xk_code_ok xk_c230 h
  | 11, _, _ => exact fun pc i h => xk_code_ok xk_c231 h
  | 12, _, _ => exact fun pc i h => xk_code_ok xk_c232 h
  | 13, _, _ => exact fun pc i h => xk_code_ok xk_c233 h
  | 14, _, _ => exact fun pc i h => xk_code_ok xk_c234 h
  | 15, _, _ => exact fun pc i h => xk_code_ok xk_c235 h
  | 16, _, _ => exact fun pc i h => xk_code_ok xk_c236 h
  | 17, _, _ => exact fun pc i h => xk_code_ok xk_c237 h
  | 18, _, _ => exact fun pc i h => xk_code_ok xk_c238 h
  | 19, _, _ => exact fun pc i h => xk_code_ok xk_c239 h
  | r + 20, h, _ => exact absurd h (by omega)
theorem xk_cd_c12 {r : Nat} (hr : r < 20) (h1 : 240 + r < 317) : ∀ pc i, (xt_code (240 + r)).lookup pc = some i → xx_dec (xt_bt (240 + r)) pc i := by
  match r, hr, h1 with
  | 0, _, _ => exact fun pc i h => xk_code_ok xk_c240 h
  | 1, _, _ => exact fun pc i h => xk_code_ok xk_c241 h
  | 2, _, _ => exact fun pc i h => xk_code_ok xk_c242 h
  | 3, _, _ => exact fun pc i h => xk_code_ok xk_c243 h
  | 4, _, _ => exact fun pc i h => xk_code_ok xk_c244 h
  | 5, _, _ => exact fun pc i h => xk_code_ok xk_c245 h
  | 6, _, _ => exact fun pc i h => xk_code_ok xk_c246 h
  | 7, _, _ => exact fun pc i h => xk_code_ok xk_c247 h
  | 8, _, _ => exact fun pc i h => xk_code_ok xk_c248 h
  | 9, _, _ => exact fun pc i h => xk_code_ok xk_c249 h
  | 10, _, _ => exact fun pc i h => xk_code_ok xk_c250 h
  | 11, _, _ => exact fun pc i h => xk_code_ok xk_c251 h
  | 12, _, _ => exact fun pc i h => xk_code_ok xk_c252 h
  | 13, _, _ => exact fun pc i h => xk_code_ok xk_c253 h
  | 14, _, _ => exact fun pc i h => xk_code_ok xk_c254 h
  | 15, _, _ => exact fun pc i h => xk_code_ok xk_c255 h
  | 16, _, _ => exact fun pc i h => xk_code_ok xk_c256 h
  | 17, _, _ => exact fun pc i h => xk_code_ok xk_c257 h
  | 18, _, _ => exact fun pc i h => xk_code_ok xk_c258 h
  | 19, _, _ => exact fun pc i h => xk_code_ok xk_c259 h
  | r + 20, h, _ => exact absurd h (by omega)
theorem xk_cd_c13 {r : Nat} (hr : r < 20) (h1 : 260 + r < 317) : ∀ pc i, (xt_code (260 + r)).lookup pc = some i → xx_dec (xt_bt (260 + r)) pc i := by
  match r, hr, h1 with
  | 0, _, _ => exact fun pc i h => xk_code_ok xk_c260 h
  | 1, _, _ => exact fun pc i h => xk_code_ok xk_c261 h
  | 2, _, _ => exact fun pc i h => xk_code_ok xk_c262 h
  | 3, _, _ => exact fun pc i h => xk_code_ok xk_c263 h
  | 4, _, _ => exact fun pc i h => xk_code_ok xk_c264 h
  | 5, _, _ => exact fun pc i h => xk_code_ok xk_c265 h
  | 6, _, _ => exact fun pc i h => xk_code_ok xk_c266 h
  | 7, _, _ => exact fun pc i h => xk_code_ok xk_c267 h
  | 8, _, _ => exact fun pc i h => xk_code_ok xk_c268 h
  | 9, _, _ => exact fun pc i h => xk_code_ok xk_c269 h
  | 10, _, _ => exact fun pc i h => xk_code_ok xk_c270 h
  | 11, _, _ => exact fun pc i h => xk_code_ok xk_c271 h
  | 12, _, _ => exact fun pc i h => xk_code_ok xk_c272 h
  | 13, _, _ => exact fun pc i h => xk_code_ok xk_c273 h
  | 14, _, _ => exact fun pc i h => xk_code_ok xk_c274 h
  | 15, _, _ => exact fun pc i h => xk_code_ok xk_c275 h
  | 16, _, _ => exact fun pc i h => xk_code_ok xk_c276 h
  | 17, _, _ => exact fun pc i h => xk_code_ok xk_c277 h
  | 18, _, _ => exact fun pc i h => xk_code_ok xk_c278 h
  | 19, _, _ => exact fun pc i h => xk_code_ok xk_c279 h
  | r + 20, h, _ => exact absurd h (by omega)
theorem xk_cd_c14 {r : Nat} (hr : r < 20) (h1 : 280 + r < 317) : ∀ pc i, (xt_code (280 + r)).lookup pc = some i → xx_dec (xt_bt (280 + r)) pc i := by
  match r, hr, h1 with
  | 0, _, _ => exact fun pc i h => xk_code_ok xk_c280 h
  | 1, _, _ => exact fun pc i h => xk_code_ok xk_c281 h
  | 2, _, _ => exact fun pc i h => xk_code_ok xk_c282 h
  | 3, _, _ => exact fun pc i h => xk_code_ok xk_c283 h
  | 4, _, _ => exact fun pc i h => xk_code_ok xk_c284 h
  | 5, _, _ => exact fun pc i h => xk_code_ok xk_c285 h
  | 6, _, _ => exact fun pc i h => xk_code_ok xk_c286 h
  | 7, _, _ => exact fun pc i h => xk_code_ok xk_c287 h
  | 8, _, _ => exact fun pc i h => xk_code_ok xk_c288 h
  | 9, _, _ => exact fun pc i h => xk_code_ok xk_c289 h
  | 10, _, _ => exact fun pc i h => xk_code_ok xk_c290 h
  | 11, _, _ => exact fun pc i h => xk_code_ok xk_c291 h
  | 12, _, _ => exact fun pc i h => xk_code_ok xk_c292 h
  | 13, _, _ => exact fun pc i h => xk_code_ok xk_c293 h
  | 14, _, _ => exact fun pc i h => xk_code_ok xk_c294 h
  | 15, _, _ => exact fun pc i h => xk_code_ok xk_c295 h
  | 16, _, _ => exact fun pc i h => xk_code_ok xk_c296 h
  | 17, _, _ => exact fun pc i h => xk_code_ok xk_c297 h
  | 18, _, _ => exact fun pc i h => xk_code_ok xk_c298 h
  | 19, _, _ => exact fun pc i h => xk_code_ok xk_c299 h
  | r + 20, h, _ => exact absurd h (by omega)
theorem xk_cd_c15 {r : Nat} (hr : r < 20) (h1 : 300 + r < 317) : ∀ pc i, (xt_code (300 + r)).lookup pc = some i → xx_dec (xt_bt (300 + r)) pc i := by
  match r, hr, h1 with
  | 0, _, _ => exact fun pc i h => xk_code_ok xk_c300 h
  | 1, _, _ => exact fun pc i h => xk_code_ok xk_c301 h
  | 2, _, _ => exact fun pc i h => xk_code_ok xk_c302 h
  | 3, _, _ => exact fun pc i h => xk_code_ok xk_c303 h
  | 4, _, _ => exact fun pc i h => xk_code_ok xk_c304 h
  | 5, _, _ => exact fun pc i h => xk_code_ok xk_c305 h
  | 6, _, _ => exact fun pc i h => xk_code_ok xk_c306 h
  | 7, _, _ => exact fun pc i h => xk_code_ok xk_c307 h
  | 8, _, _ => exact fun pc i h => xk_code_ok xk_c308 h
  | 9, _, _ => exact fun pc i h => xk_code_ok xk_c309 h
  | 10, _, _ => exact fun pc i h => xk_code_ok xk_c310 h
  | 11, _, _ => exact fun pc i h => xk_code_ok xk_c311 h
  | 12, _, _ => exact fun pc i h => xk_code_ok xk_c312 h
  | 13, _, _ => exact fun pc i h => xk_code_ok xk_c313 h
  | 14, _, _ => exact fun pc i h => xk_code_ok xk_c314 h
  | 15, _, _ => exact fun pc i h => xk_code_ok xk_c315 h
  | 16, _, _ => exact fun pc i h => xk_code_ok xk_c316 h
  | 17, _, h1 => exact absurd h1 (by decide)
  | 18, _, h1 => exact absurd h1 (by decide)
  | 19, _, h1 => exact absurd h1 (by decide)
  | r + 20, h, _ => exact absurd h (by omega)
theorem xk_codes : ∀ k pc i, (xt_code k).lookup pc = some i → xx_dec (xt_bt k) pc i := by
  intro k
  by_cases h1 : k < 317
  · have hk : k = 20 * (k / 20) + k % 20 := (Nat.div_add_mod k 20).symm
    have hr : k % 20 < 20 := Nat.mod_lt _ (by decide)
    have hq : k / 20 < 16 := by omega
    generalize k / 20 = q at hk hq
    generalize k % 20 = r at hk hr
    subst hk
    match q, hq, h1 with
    | 0, _, h1 => exact xk_cd_c0 hr h1
    | 1, _, h1 => exact xk_cd_c1 hr h1
    | 2, _, h1 => exact xk_cd_c2 hr h1
    | 3, _, h1 => exact xk_cd_c3 hr h1
    | 4, _, h1 => exact xk_cd_c4 hr h1
    | 5, _, h1 => exact xk_cd_c5 hr h1
    | 6, _, h1 => exact xk_cd_c6 hr h1
    | 7, _, h1 => exact xk_cd_c7 hr h1
    | 8, _, h1 => exact xk_cd_c8 hr h1
    | 9, _, h1 => exact xk_cd_c9 hr h1
    | 10, _, h1 => exact xk_cd_c10 hr h1
    | 11, _, h1 => exact xk_cd_c11 hr h1
    | 12, _, h1 => exact xk_cd_c12 hr h1
    | 13, _, h1 => exact xk_cd_c13 hr h1
    | 14, _, h1 => exact xk_cd_c14 hr h1
    | 15, _, h1 => exact xk_cd_c15 hr h1
    | q + 16, h, _ => exact absurd h (by omega)
  · intro pc i h
    rw [xk_big (Nat.le_of_not_lt h1)] at h
    cases h

