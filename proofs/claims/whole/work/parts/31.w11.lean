theorem dX11_digest_0 : decode cX11_digest 0 = .ok (.aload_n 0, 1) := by decide +kernel
theorem dX11_digest_1 : decode cX11_digest 1 = .ok (.ldc2_w 399, 3) := by decide +kernel
theorem dX11_digest_4 : decode cX11_digest 4 = .ok (.putfield 390, 3) := by decide +kernel
theorem dX11_digest_7 : decode cX11_digest 7 = .ok (.iconst 0, 1) := by decide +kernel
theorem dX11_digest_8 : decode cX11_digest 8 = .ok (.istore_n 1, 1) := by decide +kernel
theorem dX11_digest_9 : decode cX11_digest 9 = .ok (.iload_n 1, 1) := by decide +kernel
theorem dX11_digest_10 : decode cX11_digest 10 = .ok (.bipush 6, 2) := by decide +kernel
theorem dX11_digest_12 : decode cX11_digest 12 = .ok (.if_icmp .ge 14, 3) := by decide +kernel
theorem dX11_digest_15 : decode cX11_digest 15 = .ok (.aload_n 0, 1) := by decide +kernel
theorem dX11_digest_16 : decode cX11_digest 16 = .ok (.iload_n 1, 1) := by decide +kernel
theorem dX11_digest_17 : decode cX11_digest 17 = .ok (.invokevirtual 401, 3) := by decide +kernel
theorem dX11_digest_20 : decode cX11_digest 20 = .ok (.iinc 1 1, 3) := by decide +kernel
theorem dX11_digest_23 : decode cX11_digest 23 = .ok (.goto (-14), 3) := by decide +kernel
theorem dX11_digest_26 : decode cX11_digest 26 = .ok (.iconst 0, 1) := by decide +kernel
theorem dX11_digest_27 : decode cX11_digest 27 = .ok (.istore_n 1, 1) := by decide +kernel
theorem dX11_digest_28 : decode cX11_digest 28 = .ok (.iload_n 1, 1) := by decide +kernel
theorem dX11_digest_29 : decode cX11_digest 29 = .ok (.bipush 8, 2) := by decide +kernel
theorem dX11_digest_31 : decode cX11_digest 31 = .ok (.if_icmp .ge 66, 3) := by decide +kernel
theorem dX11_digest_34 : decode cX11_digest 34 = .ok (.aload_n 0, 1) := by decide +kernel
theorem dX11_digest_35 : decode cX11_digest 35 = .ok (.aload_n 0, 1) := by decide +kernel
theorem dX11_digest_36 : decode cX11_digest 36 = .ok (.getfield 132, 3) := by decide +kernel
theorem dX11_digest_39 : decode cX11_digest 39 = .ok (.iload_n 1, 1) := by decide +kernel
theorem dX11_digest_40 : decode cX11_digest 40 = .ok (.iaload, 1) := by decide +kernel
theorem dX11_digest_41 : decode cX11_digest 41 = .ok (.ifCond .ge 9, 3) := by decide +kernel
theorem dX11_digest_44 : decode cX11_digest 44 = .ok (.ldc2_w 346, 3) := by decide +kernel
theorem dX11_digest_47 : decode cX11_digest 47 = .ok (.goto 10, 3) := by decide +kernel
theorem dX11_digest_50 : decode cX11_digest 50 = .ok (.aload_n 0, 1) := by decide +kernel
theorem dX11_digest_51 : decode cX11_digest 51 = .ok (.getfield 132, 3) := by decide +kernel
theorem dX11_digest_54 : decode cX11_digest 54 = .ok (.iload_n 1, 1) := by decide +kernel
theorem dX11_digest_55 : decode cX11_digest 55 = .ok (.iaload, 1) := by decide +kernel
theorem dX11_digest_56 : decode cX11_digest 56 = .ok (.i2l, 1) := by decide +kernel
theorem dX11_digest_57 : decode cX11_digest 57 = .ok (.invokevirtual 393, 3) := by decide +kernel
theorem dX11_digest_60 : decode cX11_digest 60 = .ok (.aload_n 0, 1) := by decide +kernel
theorem dX11_digest_61 : decode cX11_digest 61 = .ok (.getfield 132, 3) := by decide +kernel
theorem dX11_digest_64 : decode cX11_digest 64 = .ok (.iload_n 1, 1) := by decide +kernel
theorem dX11_digest_65 : decode cX11_digest 65 = .ok (.iaload, 1) := by decide +kernel
theorem dX11_digest_66 : decode cX11_digest 66 = .ok (.ifCond .lt 25, 3) := by decide +kernel
theorem dX11_digest_69 : decode cX11_digest 69 = .ok (.aload_n 0, 1) := by decide +kernel
theorem dX11_digest_70 : decode cX11_digest 70 = .ok (.aload_n 0, 1) := by decide +kernel
theorem dX11_digest_71 : decode cX11_digest 71 = .ok (.getfield 135, 3) := by decide +kernel
theorem dX11_digest_74 : decode cX11_digest 74 = .ok (.iload_n 1, 1) := by decide +kernel
theorem dX11_digest_75 : decode cX11_digest 75 = .ok (.iaload, 1) := by decide +kernel
theorem dX11_digest_76 : decode cX11_digest 76 = .ok (.i2l, 1) := by decide +kernel
theorem dX11_digest_77 : decode cX11_digest 77 = .ok (.invokevirtual 393, 3) := by decide +kernel
theorem dX11_digest_80 : decode cX11_digest 80 = .ok (.aload_n 0, 1) := by decide +kernel
theorem dX11_digest_81 : decode cX11_digest 81 = .ok (.aload_n 0, 1) := by decide +kernel
theorem dX11_digest_82 : decode cX11_digest 82 = .ok (.getfield 138, 3) := by decide +kernel
theorem dX11_digest_85 : decode cX11_digest 85 = .ok (.iload_n 1, 1) := by decide +kernel
theorem dX11_digest_86 : decode cX11_digest 86 = .ok (.iaload, 1) := by decide +kernel
theorem dX11_digest_87 : decode cX11_digest 87 = .ok (.i2l, 1) := by decide +kernel
theorem dX11_digest_88 : decode cX11_digest 88 = .ok (.invokevirtual 393, 3) := by decide +kernel
theorem dX11_digest_91 : decode cX11_digest 91 = .ok (.iinc 1 1, 3) := by decide +kernel
theorem dX11_digest_94 : decode cX11_digest 94 = .ok (.goto (-66), 3) := by decide +kernel
theorem dX11_digest_97 : decode cX11_digest 97 = .ok (.iconst 0, 1) := by decide +kernel
theorem dX11_digest_98 : decode cX11_digest 98 = .ok (.istore_n 1, 1) := by decide +kernel
theorem dX11_digest_99 : decode cX11_digest 99 = .ok (.iload_n 1, 1) := by decide +kernel
theorem dX11_digest_100 : decode cX11_digest 100 = .ok (.bipush 8, 2) := by decide +kernel
theorem dX11_digest_102 : decode cX11_digest 102 = .ok (.if_icmp .ge 14, 3) := by decide +kernel
theorem dX11_digest_105 : decode cX11_digest 105 = .ok (.aload_n 0, 1) := by decide +kernel
theorem dX11_digest_106 : decode cX11_digest 106 = .ok (.iload_n 1, 1) := by decide +kernel
theorem dX11_digest_107 : decode cX11_digest 107 = .ok (.invokevirtual 404, 3) := by decide +kernel
theorem dX11_digest_110 : decode cX11_digest 110 = .ok (.iinc 1 1, 3) := by decide +kernel
theorem dX11_digest_113 : decode cX11_digest 113 = .ok (.goto (-14), 3) := by decide +kernel
theorem dX11_digest_116 : decode cX11_digest 116 = .ok (.iconst 0, 1) := by decide +kernel
theorem dX11_digest_117 : decode cX11_digest 117 = .ok (.istore_n 1, 1) := by decide +kernel
theorem dX11_digest_118 : decode cX11_digest 118 = .ok (.iload_n 1, 1) := by decide +kernel
theorem dX11_digest_119 : decode cX11_digest 119 = .ok (.bipush 6, 2) := by decide +kernel
theorem dX11_digest_121 : decode cX11_digest 121 = .ok (.if_icmp .ge 69, 3) := by decide +kernel
theorem dX11_digest_124 : decode cX11_digest 124 = .ok (.aload_n 0, 1) := by decide +kernel
theorem dX11_digest_125 : decode cX11_digest 125 = .ok (.aload_n 0, 1) := by decide +kernel
theorem dX11_digest_126 : decode cX11_digest 126 = .ok (.getfield 17, 3) := by decide +kernel
theorem dX11_digest_129 : decode cX11_digest 129 = .ok (.iload_n 1, 1) := by decide +kernel
theorem dX11_digest_130 : decode cX11_digest 130 = .ok (.iaload, 1) := by decide +kernel
theorem dX11_digest_131 : decode cX11_digest 131 = .ok (.ifCond .ge 9, 3) := by decide +kernel
theorem dX11_digest_134 : decode cX11_digest 134 = .ok (.ldc2_w 346, 3) := by decide +kernel
theorem dX11_digest_137 : decode cX11_digest 137 = .ok (.goto 10, 3) := by decide +kernel
theorem dX11_digest_140 : decode cX11_digest 140 = .ok (.aload_n 0, 1) := by decide +kernel
theorem dX11_digest_141 : decode cX11_digest 141 = .ok (.getfield 17, 3) := by decide +kernel
theorem dX11_digest_144 : decode cX11_digest 144 = .ok (.iload_n 1, 1) := by decide +kernel
theorem dX11_digest_145 : decode cX11_digest 145 = .ok (.iaload, 1) := by decide +kernel
theorem dX11_digest_146 : decode cX11_digest 146 = .ok (.i2l, 1) := by decide +kernel
theorem dX11_digest_147 : decode cX11_digest 147 = .ok (.invokevirtual 393, 3) := by decide +kernel
theorem dX11_digest_150 : decode cX11_digest 150 = .ok (.iconst 0, 1) := by decide +kernel
theorem dX11_digest_151 : decode cX11_digest 151 = .ok (.istore_n 2, 1) := by decide +kernel
theorem dX11_digest_152 : decode cX11_digest 152 = .ok (.iload_n 2, 1) := by decide +kernel
theorem dX11_digest_153 : decode cX11_digest 153 = .ok (.aload_n 0, 1) := by decide +kernel
theorem dX11_digest_154 : decode cX11_digest 154 = .ok (.getfield 17, 3) := by decide +kernel
theorem dX11_digest_157 : decode cX11_digest 157 = .ok (.iload_n 1, 1) := by decide +kernel
theorem dX11_digest_158 : decode cX11_digest 158 = .ok (.iaload, 1) := by decide +kernel
theorem dX11_digest_159 : decode cX11_digest 159 = .ok (.if_icmp .ge 25, 3) := by decide +kernel
theorem dX11_digest_162 : decode cX11_digest 162 = .ok (.aload_n 0, 1) := by decide +kernel
theorem dX11_digest_163 : decode cX11_digest 163 = .ok (.aload_n 0, 1) := by decide +kernel
theorem dX11_digest_164 : decode cX11_digest 164 = .ok (.getfield 20, 3) := by decide +kernel
theorem dX11_digest_167 : decode cX11_digest 167 = .ok (.bipush 48, 2) := by decide +kernel
theorem dX11_digest_169 : decode cX11_digest 169 = .ok (.iload_n 1, 1) := by decide +kernel
theorem dX11_digest_170 : decode cX11_digest 170 = .ok (.imul, 1) := by decide +kernel
theorem dX11_digest_171 : decode cX11_digest 171 = .ok (.iload_n 2, 1) := by decide +kernel
theorem dX11_digest_172 : decode cX11_digest 172 = .ok (.iadd, 1) := by decide +kernel
theorem dX11_digest_173 : decode cX11_digest 173 = .ok (.iaload, 1) := by decide +kernel
theorem dX11_digest_174 : decode cX11_digest 174 = .ok (.i2l, 1) := by decide +kernel
theorem dX11_digest_175 : decode cX11_digest 175 = .ok (.invokevirtual 393, 3) := by decide +kernel
theorem dX11_digest_178 : decode cX11_digest 178 = .ok (.iinc 2 1, 3) := by decide +kernel
theorem dX11_digest_181 : decode cX11_digest 181 = .ok (.goto (-29), 3) := by decide +kernel
theorem dX11_digest_184 : decode cX11_digest 184 = .ok (.iinc 1 1, 3) := by decide +kernel
theorem dX11_digest_187 : decode cX11_digest 187 = .ok (.goto (-69), 3) := by decide +kernel
theorem dX11_digest_190 : decode cX11_digest 190 = .ok (.iconst 0, 1) := by decide +kernel
theorem dX11_digest_191 : decode cX11_digest 191 = .ok (.istore_n 1, 1) := by decide +kernel
theorem dX11_digest_192 : decode cX11_digest 192 = .ok (.iload_n 1, 1) := by decide +kernel
theorem dX11_digest_193 : decode cX11_digest 193 = .ok (.bipush 6, 2) := by decide +kernel
theorem dX11_digest_195 : decode cX11_digest 195 = .ok (.if_icmp .ge 69, 3) := by decide +kernel
theorem dX11_digest_198 : decode cX11_digest 198 = .ok (.aload_n 0, 1) := by decide +kernel
theorem dX11_digest_199 : decode cX11_digest 199 = .ok (.aload_n 0, 1) := by decide +kernel
theorem dX11_digest_200 : decode cX11_digest 200 = .ok (.getfield 26, 3) := by decide +kernel
theorem dX11_digest_203 : decode cX11_digest 203 = .ok (.iload_n 1, 1) := by decide +kernel
theorem dX11_digest_204 : decode cX11_digest 204 = .ok (.iaload, 1) := by decide +kernel
theorem dX11_digest_205 : decode cX11_digest 205 = .ok (.ifCond .ge 9, 3) := by decide +kernel
theorem dX11_digest_208 : decode cX11_digest 208 = .ok (.ldc2_w 346, 3) := by decide +kernel
theorem dX11_digest_211 : decode cX11_digest 211 = .ok (.goto 10, 3) := by decide +kernel
theorem dX11_digest_214 : decode cX11_digest 214 = .ok (.aload_n 0, 1) := by decide +kernel
theorem dX11_digest_215 : decode cX11_digest 215 = .ok (.getfield 26, 3) := by decide +kernel
theorem dX11_digest_218 : decode cX11_digest 218 = .ok (.iload_n 1, 1) := by decide +kernel
theorem dX11_digest_219 : decode cX11_digest 219 = .ok (.iaload, 1) := by decide +kernel
theorem dX11_digest_220 : decode cX11_digest 220 = .ok (.i2l, 1) := by decide +kernel
theorem dX11_digest_221 : decode cX11_digest 221 = .ok (.invokevirtual 393, 3) := by decide +kernel
theorem dX11_digest_224 : decode cX11_digest 224 = .ok (.iconst 0, 1) := by decide +kernel
theorem dX11_digest_225 : decode cX11_digest 225 = .ok (.istore_n 2, 1) := by decide +kernel
theorem dX11_digest_226 : decode cX11_digest 226 = .ok (.iload_n 2, 1) := by decide +kernel
theorem dX11_digest_227 : decode cX11_digest 227 = .ok (.aload_n 0, 1) := by decide +kernel
theorem dX11_digest_228 : decode cX11_digest 228 = .ok (.getfield 26, 3) := by decide +kernel
theorem dX11_digest_231 : decode cX11_digest 231 = .ok (.iload_n 1, 1) := by decide +kernel
theorem dX11_digest_232 : decode cX11_digest 232 = .ok (.iaload, 1) := by decide +kernel
theorem dX11_digest_233 : decode cX11_digest 233 = .ok (.if_icmp .ge 25, 3) := by decide +kernel
theorem dX11_digest_236 : decode cX11_digest 236 = .ok (.aload_n 0, 1) := by decide +kernel
theorem dX11_digest_237 : decode cX11_digest 237 = .ok (.aload_n 0, 1) := by decide +kernel
theorem dX11_digest_238 : decode cX11_digest 238 = .ok (.getfield 29, 3) := by decide +kernel
theorem dX11_digest_241 : decode cX11_digest 241 = .ok (.bipush 40, 2) := by decide +kernel
theorem dX11_digest_243 : decode cX11_digest 243 = .ok (.iload_n 1, 1) := by decide +kernel
theorem dX11_digest_244 : decode cX11_digest 244 = .ok (.imul, 1) := by decide +kernel
theorem dX11_digest_245 : decode cX11_digest 245 = .ok (.iload_n 2, 1) := by decide +kernel
theorem dX11_digest_246 : decode cX11_digest 246 = .ok (.iadd, 1) := by decide +kernel
theorem dX11_digest_247 : decode cX11_digest 247 = .ok (.iaload, 1) := by decide +kernel
theorem dX11_digest_248 : decode cX11_digest 248 = .ok (.i2l, 1) := by decide +kernel
theorem dX11_digest_249 : decode cX11_digest 249 = .ok (.invokevirtual 393, 3) := by decide +kernel
theorem dX11_digest_252 : decode cX11_digest 252 = .ok (.iinc 2 1, 3) := by decide +kernel
theorem dX11_digest_255 : decode cX11_digest 255 = .ok (.goto (-29), 3) := by decide +kernel
theorem dX11_digest_258 : decode cX11_digest 258 = .ok (.iinc 1 1, 3) := by decide +kernel
theorem dX11_digest_261 : decode cX11_digest 261 = .ok (.goto (-69), 3) := by decide +kernel
theorem dX11_digest_264 : decode cX11_digest 264 = .ok (.aload_n 0, 1) := by decide +kernel
theorem dX11_digest_265 : decode cX11_digest 265 = .ok (.getfield 390, 3) := by decide +kernel
theorem dX11_digest_268 : decode cX11_digest 268 = .ok (.lreturn, 1) := by decide +kernel
noncomputable def L_X11_digest_9  : Nat → Int32 → qM → (qM → Option (Int64 × qM)) → Option (Int64 × qM)
  | 0, _, _, _ => none
  | n + 1, x1, u2, e1 => if 6 ≤ x1 then e1 u2 else q_bd (f_X11_mixBoard x1 u2) (fun (_z : Unit) (u3 : qM) => q_lt (x1 + 1) (fun (x2 : Int32) => L_X11_digest_9 n x2 u3 e1))
noncomputable def L_X11_digest_28  : Nat → Int32 → qM → (qM → Option (Int64 × qM)) → Option (Int64 × qM)
  | 0, _, _, _ => none
  | n + 1, x3, u5, e1 => if 8 ≤ x3 then e1 u5 else q_ck (q_in x3 8) (q_jn (fun (w1 : Int64) (u6 : qM) => q_bd (f_X11_mix w1 u6) (fun (_z : Unit) (u7 : qM) => q_ck (q_in x3 8) (q_jn (fun  (u8 : qM) => q_lt (x3 + 1) (fun (x4 : Int32) => L_X11_digest_28 n x4 u8 e1)) (fun j2 => if (u7.1 105 0 (Int32.toNatClampNeg x3)) < 0 then j2 u7 else q_ck (q_in x3 8) (q_bd (f_X11_mix (Int32.toInt64 (u7.1 106 0 (Int32.toNatClampNeg x3))) u7) (fun (_z : Unit) (u9 : qM) => q_ck (q_in x3 8) (q_bd (f_X11_mix (Int32.toInt64 (u9.1 107 0 (Int32.toNatClampNeg x3))) u9) (fun (_z : Unit) (u10 : qM) => j2 u10)))))))) (fun j1 => if (0 : Int32) ≤ (u5.1 105 0 (Int32.toNatClampNeg x3)) then q_ck (q_in x3 8) (j1 (Int32.toInt64 (u5.1 105 0 (Int32.toNatClampNeg x3))) u5) else j1 (-1) u5))
noncomputable def L_X11_digest_99  : Nat → Int32 → qM → (qM → Option (Int64 × qM)) → Option (Int64 × qM)
  | 0, _, _, _ => none
  | n + 1, x5, u12, e1 => if 8 ≤ x5 then e1 u12 else q_bd (f_X11_mixGauge x5 u12) (fun (_z : Unit) (u13 : qM) => q_lt (x5 + 1) (fun (x6 : Int32) => L_X11_digest_99 n x6 u13 e1))
noncomputable def L_X11_digest_152 (x7 : Int32) : Nat → Int32 → qM → (qM → Option (Int64 × qM)) → Option (Int64 × qM)
  | 0, _, _, _ => none
  | n + 1, x8, u18, e1 => q_ck (q_in x7 6) (if (u18.1 66 0 (Int32.toNatClampNeg x7)) ≤ x8 then e1 u18 else q_ck (q_in ((48 * x7) + x8) 288) (q_bd (f_X11_mix (Int32.toInt64 (u18.1 67 0 (Int32.toNatClampNeg ((48 * x7) + x8)))) u18) (fun (_z : Unit) (u19 : qM) => q_lt (x8 + 1) (fun (x9 : Int32) => L_X11_digest_152 x7 n x9 u19 e1))))
noncomputable def L_X11_digest_118  : Nat → Int32 → qM → (qM → Option (Int64 × qM)) → Option (Int64 × qM)
  | 0, _, _, _ => none
  | n + 1, x7, u15, e1 => if 6 ≤ x7 then e1 u15 else q_ck (q_in x7 6) (q_jn (fun (w2 : Int64) (u16 : qM) => q_bd (f_X11_mix w2 u16) (fun (_z : Unit) (u17 : qM) => L_X11_digest_152 x7 q_fu 0 u17 (fun u20 => q_lt (x7 + 1) (fun (x10 : Int32) => L_X11_digest_118 n x10 u20 e1)))) (fun j3 => if (0 : Int32) ≤ (u15.1 66 0 (Int32.toNatClampNeg x7)) then q_ck (q_in x7 6) (j3 (Int32.toInt64 (u15.1 66 0 (Int32.toNatClampNeg x7))) u15) else j3 (-1) u15))
noncomputable def L_X11_digest_226 (x11 : Int32) : Nat → Int32 → qM → (qM → Option (Int64 × qM)) → Option (Int64 × qM)
  | 0, _, _, _ => none
  | n + 1, x12, u25, e1 => q_ck (q_in x11 6) (if (u25.1 69 0 (Int32.toNatClampNeg x11)) ≤ x12 then e1 u25 else q_ck (q_in ((40 * x11) + x12) 240) (q_bd (f_X11_mix (Int32.toInt64 (u25.1 70 0 (Int32.toNatClampNeg ((40 * x11) + x12)))) u25) (fun (_z : Unit) (u26 : qM) => q_lt (x12 + 1) (fun (x13 : Int32) => L_X11_digest_226 x11 n x13 u26 e1))))
noncomputable def L_X11_digest_192  : Nat → Int32 → qM → (qM → Option (Int64 × qM)) → Option (Int64 × qM)
  | 0, _, _, _ => none
  | n + 1, x11, u22, e1 => if 6 ≤ x11 then e1 u22 else q_ck (q_in x11 6) (q_jn (fun (w3 : Int64) (u23 : qM) => q_bd (f_X11_mix w3 u23) (fun (_z : Unit) (u24 : qM) => L_X11_digest_226 x11 q_fu 0 u24 (fun u27 => q_lt (x11 + 1) (fun (x14 : Int32) => L_X11_digest_192 n x14 u27 e1)))) (fun j4 => if (0 : Int32) ≤ (u22.1 69 0 (Int32.toNatClampNeg x11)) then q_ck (q_in x11 6) (j4 (Int32.toInt64 (u22.1 69 0 (Int32.toNatClampNeg x11))) u22) else j4 (-1) u22))
noncomputable def f_X11_digest  (u0 : qM) : Option (Int64 × qM) :=
  q_lt (q_sl u0 11 0 65 17) (fun (u1 : qM) => L_X11_digest_9 q_fu 0 u1 (fun u4 => L_X11_digest_28 q_fu 0 u4 (fun u11 => L_X11_digest_99 q_fu 0 u11 (fun u14 => L_X11_digest_118 q_fu 0 u14 (fun u21 => L_X11_digest_192 q_fu 0 u21 (fun u28 => some (u28.2.1 11 0 65, u28)))))))
set_option maxRecDepth 100000 in
set_option maxHeartbeats 4000000 in
theorem TL_X11_digest_9 (l : Launch) (G : qG)   (e1 : qM → Option (Int64 × qM)) (he1 : ∀  (v : qM), qAW l G m_X11_digest (q_mq G q_cL) 26 [(0, .ref (q_ad G 11 0))] [] v (e1 v)) : ∀ (n : Nat) (x1 : Int32) (u2 : qM), qAW l G m_X11_digest (q_mq G q_cL) 9 [(0, .ref (q_ad G 11 0)), (1, .int x1)] [] u2 (L_X11_digest_9 n x1 u2 e1) := by
  intro n
  induction n with
  | zero => intros; exact aw_none
  | succ n ih =>
    intro x1 u2
    unfold L_X11_digest_9
    refine aw_iload_n (i := 1) dX11_digest_9 10 rfl rfl 1 rfl ?_
    refine aw_bipush (x := 6) dX11_digest_10 12 rfl rfl ?_
    refine aw_icmp_ge dX11_digest_12 15 rfl 26 rfl (fun h1 => ?_) (fun h1 => ?_)
    · exact aw_conv [0] rfl (he1 u2)
    · refine aw_aload_n (i := 0) dX11_digest_15 16 rfl rfl 0 rfl ?_
      refine aw_iload_n (i := 1) dX11_digest_16 17 rfl rfl 1 rfl ?_
      refine aw_callV (M2 := m_X11_mixBoard) (cv := q_cU) dX11_digest_17 20 rfl (k_X11_mixBoard l G x1  u2) wd_348 wv_X11_mixBoard pk_X11_mixBoard rfl rfl ⟨by decide, by decide⟩ ⟨Nat.zero_le _, Nat.zero_le _⟩ at_11 (ok_11 (by decide)) rfl rfl rfl (Nat.le_of_ble_eq_true rfl) (fun _z u3 => ?_)
      show qAW l G m_X11_digest (q_mq G q_cL) 20 [(0, .ref (q_ad G 11 0)), (1, .int x1)] [] u3 _
      refine aw_iincx (i := 1) dX11_digest_20 23 rfl 1 rfl 1 rfl (fun x2 => [(1, .int x2), (0, .ref (q_ad G 11 0))]) (by decide) (fun _ => rfl) (fun x2 => ?_)
      refine aw_goto dX11_digest_23 9 rfl ?_
      exact aw_conv [1, 0] rfl (ih x2 u3)
set_option maxRecDepth 100000 in
set_option maxHeartbeats 4000000 in
theorem TL_X11_digest_28 (l : Launch) (G : qG)   (e1 : qM → Option (Int64 × qM)) (he1 : ∀  (v : qM), qAW l G m_X11_digest (q_mq G q_cL) 97 [(0, .ref (q_ad G 11 0))] [] v (e1 v)) : ∀ (n : Nat) (x3 : Int32) (u5 : qM), qAW l G m_X11_digest (q_mq G q_cL) 28 [(0, .ref (q_ad G 11 0)), (1, .int x3)] [] u5 (L_X11_digest_28 n x3 u5 e1) := by
  intro n
  induction n with
  | zero => intros; exact aw_none
  | succ n ih =>
    intro x3 u5
    unfold L_X11_digest_28
    refine aw_iload_n (i := 1) dX11_digest_28 29 rfl rfl 1 rfl ?_
    refine aw_bipush (x := 8) dX11_digest_29 31 rfl rfl ?_
    refine aw_icmp_ge dX11_digest_31 34 rfl 97 rfl (fun h2 => ?_) (fun h2 => ?_)
    · exact aw_conv [0] rfl (he1 u5)
    · refine aw_aload_n (i := 0) dX11_digest_34 35 rfl rfl 0 rfl ?_
      refine aw_aload_n (i := 0) dX11_digest_35 36 rfl rfl 0 rfl ?_
      refine gf_X11_45 dX11_digest_36 39 rfl wd_254 (ok_11 (by decide)) ?_
      refine aw_iload_n (i := 1) dX11_digest_39 40 rfl rfl 1 rfl ?_
      refine aw_iald dX11_digest_40 41 rfl at_105 (al_105 _) (ok_105 (by decide)) (fun h3 => ?_)
      refine aw_jn (fun k => ∀ (w1 : Int64) (u6 : qM), qAW l G m_X11_digest (q_mq G q_cL) 57 [(0, .ref (q_ad G 11 0)), (1, .int x3)] [.long w1, .ref (q_ad G 11 0)] u6 (k w1 u6)) ?_ ?_
      · intro w1 u6
        refine aw_callV (M2 := m_X11_mix) (cv := q_cU) dX11_digest_57 60 rfl (k_X11_mix l G w1  u6) wd_345 wv_X11_mix pk_X11_mix rfl rfl ⟨by decide, by decide⟩ ⟨Nat.zero_le _, Nat.zero_le _⟩ at_11 (ok_11 (by decide)) rfl rfl rfl (Nat.le_of_ble_eq_true rfl) (fun _z u7 => ?_)
        show qAW l G m_X11_digest (q_mq G q_cL) 60 [(0, .ref (q_ad G 11 0)), (1, .int x3)] [] u7 _
        refine aw_aload_n (i := 0) dX11_digest_60 61 rfl rfl 0 rfl ?_
        refine gf_X11_45 dX11_digest_61 64 rfl wd_254 (ok_11 (by decide)) ?_
        refine aw_iload_n (i := 1) dX11_digest_64 65 rfl rfl 1 rfl ?_
        refine aw_iald dX11_digest_65 66 rfl at_105 (al_105 _) (ok_105 (by decide)) (fun h5 => ?_)
        refine aw_jn (fun k => ∀  (u8 : qM), qAW l G m_X11_digest (q_mq G q_cL) 91 [(0, .ref (q_ad G 11 0)), (1, .int x3)] [] u8 (k u8)) ?_ ?_
        · intro u8
          refine aw_iincx (i := 1) dX11_digest_91 94 rfl 1 rfl 1 rfl (fun x4 => [(1, .int x4), (0, .ref (q_ad G 11 0))]) (by decide) (fun _ => rfl) (fun x4 => ?_)
          refine aw_goto dX11_digest_94 28 rfl ?_
          exact aw_conv [1, 0] rfl (ih x4 u8)
        · intro j2 hj2
          refine aw_if_lt dX11_digest_66 69 rfl 91 rfl (fun h6 => ?_) (fun h6 => ?_)
          · exact hj2 u7
          · refine aw_aload_n (i := 0) dX11_digest_69 70 rfl rfl 0 rfl ?_
            refine aw_aload_n (i := 0) dX11_digest_70 71 rfl rfl 0 rfl ?_
            refine gf_X11_46 dX11_digest_71 74 rfl wd_295 (ok_11 (by decide)) ?_
            refine aw_iload_n (i := 1) dX11_digest_74 75 rfl rfl 1 rfl ?_
            refine aw_iald dX11_digest_75 76 rfl at_106 (al_106 _) (ok_106 (by decide)) (fun h7 => ?_)
            refine aw_i2l dX11_digest_76 77 rfl ?_
            refine aw_callV (M2 := m_X11_mix) (cv := q_cU) dX11_digest_77 80 rfl (k_X11_mix l G (Int32.toInt64 (u7.1 106 0 (Int32.toNatClampNeg x3)))  u7) wd_345 wv_X11_mix pk_X11_mix rfl rfl ⟨by decide, by decide⟩ ⟨Nat.zero_le _, Nat.zero_le _⟩ at_11 (ok_11 (by decide)) rfl rfl rfl (Nat.le_of_ble_eq_true rfl) (fun _z u9 => ?_)
            show qAW l G m_X11_digest (q_mq G q_cL) 80 [(0, .ref (q_ad G 11 0)), (1, .int x3)] [] u9 _
            refine aw_aload_n (i := 0) dX11_digest_80 81 rfl rfl 0 rfl ?_
            refine aw_aload_n (i := 0) dX11_digest_81 82 rfl rfl 0 rfl ?_
            refine gf_X11_47 dX11_digest_82 85 rfl wd_296 (ok_11 (by decide)) ?_
            refine aw_iload_n (i := 1) dX11_digest_85 86 rfl rfl 1 rfl ?_
            refine aw_iald dX11_digest_86 87 rfl at_107 (al_107 _) (ok_107 (by decide)) (fun h8 => ?_)
            refine aw_i2l dX11_digest_87 88 rfl ?_
            refine aw_callV (M2 := m_X11_mix) (cv := q_cU) dX11_digest_88 91 rfl (k_X11_mix l G (Int32.toInt64 (u9.1 107 0 (Int32.toNatClampNeg x3)))  u9) wd_345 wv_X11_mix pk_X11_mix rfl rfl ⟨by decide, by decide⟩ ⟨Nat.zero_le _, Nat.zero_le _⟩ at_11 (ok_11 (by decide)) rfl rfl rfl (Nat.le_of_ble_eq_true rfl) (fun _z u10 => ?_)
            show qAW l G m_X11_digest (q_mq G q_cL) 91 [(0, .ref (q_ad G 11 0)), (1, .int x3)] [] u10 _
            exact hj2 u10
      · intro j1 hj1
        refine aw_if_ge dX11_digest_41 44 rfl 50 rfl (fun h4 => ?_) (fun h4 => ?_)
        · refine aw_aload_n (i := 0) dX11_digest_50 51 rfl rfl 0 rfl ?_
          refine gf_X11_45 dX11_digest_51 54 rfl wd_254 (ok_11 (by decide)) ?_
          refine aw_iload_n (i := 1) dX11_digest_54 55 rfl rfl 1 rfl ?_
          refine aw_iald dX11_digest_55 56 rfl at_105 (al_105 _) (ok_105 (by decide)) (fun h9 => ?_)
          refine aw_i2l dX11_digest_56 57 rfl ?_
          exact hj1 (Int32.toInt64 (u5.1 105 0 (Int32.toNatClampNeg x3))) u5
        · refine aw_ldc2 (x := (-1)) dX11_digest_44 47 rfl wd_325 ?_
          refine aw_goto dX11_digest_47 57 rfl ?_
          exact hj1 (-1) u5
set_option maxRecDepth 100000 in
set_option maxHeartbeats 4000000 in
theorem TL_X11_digest_99 (l : Launch) (G : qG)   (e1 : qM → Option (Int64 × qM)) (he1 : ∀  (v : qM), qAW l G m_X11_digest (q_mq G q_cL) 116 [(0, .ref (q_ad G 11 0))] [] v (e1 v)) : ∀ (n : Nat) (x5 : Int32) (u12 : qM), qAW l G m_X11_digest (q_mq G q_cL) 99 [(0, .ref (q_ad G 11 0)), (1, .int x5)] [] u12 (L_X11_digest_99 n x5 u12 e1) := by
  intro n
  induction n with
  | zero => intros; exact aw_none
  | succ n ih =>
    intro x5 u12
    unfold L_X11_digest_99
    refine aw_iload_n (i := 1) dX11_digest_99 100 rfl rfl 1 rfl ?_
    refine aw_bipush (x := 8) dX11_digest_100 102 rfl rfl ?_
    refine aw_icmp_ge dX11_digest_102 105 rfl 116 rfl (fun h10 => ?_) (fun h10 => ?_)
    · exact aw_conv [0] rfl (he1 u12)
    · refine aw_aload_n (i := 0) dX11_digest_105 106 rfl rfl 0 rfl ?_
      refine aw_iload_n (i := 1) dX11_digest_106 107 rfl rfl 1 rfl ?_
      refine aw_callV (M2 := m_X11_mixGauge) (cv := q_cU) dX11_digest_107 110 rfl (k_X11_mixGauge l G x5  u12) wd_349 wv_X11_mixGauge pk_X11_mixGauge rfl rfl ⟨by decide, by decide⟩ ⟨Nat.zero_le _, Nat.zero_le _⟩ at_11 (ok_11 (by decide)) rfl rfl rfl (Nat.le_of_ble_eq_true rfl) (fun _z u13 => ?_)
      show qAW l G m_X11_digest (q_mq G q_cL) 110 [(0, .ref (q_ad G 11 0)), (1, .int x5)] [] u13 _
      refine aw_iincx (i := 1) dX11_digest_110 113 rfl 1 rfl 1 rfl (fun x6 => [(1, .int x6), (0, .ref (q_ad G 11 0))]) (by decide) (fun _ => rfl) (fun x6 => ?_)
      refine aw_goto dX11_digest_113 99 rfl ?_
      exact aw_conv [1, 0] rfl (ih x6 u13)
set_option maxRecDepth 100000 in
set_option maxHeartbeats 4000000 in
theorem TL_X11_digest_152 (l : Launch) (G : qG) (x7 : Int32)  (e1 : qM → Option (Int64 × qM)) (he1 : ∀  (v : qM), qAW l G m_X11_digest (q_mq G q_cL) 184 [(0, .ref (q_ad G 11 0)), (1, .int x7)] [] v (e1 v)) : ∀ (n : Nat) (x8 : Int32) (u18 : qM), qAW l G m_X11_digest (q_mq G q_cL) 152 [(0, .ref (q_ad G 11 0)), (1, .int x7), (2, .int x8)] [] u18 (L_X11_digest_152 x7 n x8 u18 e1) := by
  intro n
  induction n with
  | zero => intros; exact aw_none
  | succ n ih =>
    intro x8 u18
    unfold L_X11_digest_152
    refine aw_iload_n (i := 2) dX11_digest_152 153 rfl rfl 2 rfl ?_
    refine aw_aload_n (i := 0) dX11_digest_153 154 rfl rfl 0 rfl ?_
    refine gf_X11_6 dX11_digest_154 157 rfl wd_228 (ok_11 (by decide)) ?_
    refine aw_iload_n (i := 1) dX11_digest_157 158 rfl rfl 1 rfl ?_
    refine aw_iald dX11_digest_158 159 rfl at_66 (al_66 _) (ok_66 (by decide)) (fun h14 => ?_)
    refine aw_icmp_ge dX11_digest_159 162 rfl 184 rfl (fun h15 => ?_) (fun h15 => ?_)
    · exact aw_conv [0, 1] rfl (he1 u18)
    · refine aw_aload_n (i := 0) dX11_digest_162 163 rfl rfl 0 rfl ?_
      refine aw_aload_n (i := 0) dX11_digest_163 164 rfl rfl 0 rfl ?_
      refine gf_X11_7 dX11_digest_164 167 rfl wd_230 (ok_11 (by decide)) ?_
      refine aw_bipush (x := 48) dX11_digest_167 169 rfl rfl ?_
      refine aw_iload_n (i := 1) dX11_digest_169 170 rfl rfl 1 rfl ?_
      refine aw_imul dX11_digest_170 171 rfl ?_
      refine aw_iload_n (i := 2) dX11_digest_171 172 rfl rfl 2 rfl ?_
      refine aw_iadd dX11_digest_172 173 rfl ?_
      refine aw_iald dX11_digest_173 174 rfl at_67 (al_67 _) (ok_67 (by decide)) (fun h16 => ?_)
      refine aw_i2l dX11_digest_174 175 rfl ?_
      refine aw_callV (M2 := m_X11_mix) (cv := q_cU) dX11_digest_175 178 rfl (k_X11_mix l G (Int32.toInt64 (u18.1 67 0 (Int32.toNatClampNeg ((48 * x7) + x8))))  u18) wd_345 wv_X11_mix pk_X11_mix rfl rfl ⟨by decide, by decide⟩ ⟨Nat.zero_le _, Nat.zero_le _⟩ at_11 (ok_11 (by decide)) rfl rfl rfl (Nat.le_of_ble_eq_true rfl) (fun _z u19 => ?_)
      show qAW l G m_X11_digest (q_mq G q_cL) 178 [(0, .ref (q_ad G 11 0)), (1, .int x7), (2, .int x8)] [] u19 _
      refine aw_iincx (i := 2) dX11_digest_178 181 rfl 2 rfl 1 rfl (fun x9 => [(2, .int x9), (0, .ref (q_ad G 11 0)), (1, .int x7)]) (by decide) (fun _ => rfl) (fun x9 => ?_)
      refine aw_goto dX11_digest_181 152 rfl ?_
      exact aw_conv [1, 2, 0] rfl (ih x9 u19)
set_option maxRecDepth 100000 in
set_option maxHeartbeats 4000000 in
theorem TL_X11_digest_118 (l : Launch) (G : qG)   (e1 : qM → Option (Int64 × qM)) (he1 : ∀  (v : qM), qAW l G m_X11_digest (q_mq G q_cL) 190 [(0, .ref (q_ad G 11 0))] [] v (e1 v)) : ∀ (n : Nat) (x7 : Int32) (u15 : qM), qAW l G m_X11_digest (q_mq G q_cL) 118 [(0, .ref (q_ad G 11 0)), (1, .int x7)] [] u15 (L_X11_digest_118 n x7 u15 e1) := by
  intro n
  induction n with
  | zero => intros; exact aw_none
  | succ n ih =>
    intro x7 u15
    unfold L_X11_digest_118
    refine aw_iload_n (i := 1) dX11_digest_118 119 rfl rfl 1 rfl ?_
    refine aw_bipush (x := 6) dX11_digest_119 121 rfl rfl ?_
    refine aw_icmp_ge dX11_digest_121 124 rfl 190 rfl (fun h11 => ?_) (fun h11 => ?_)
    · exact aw_conv [0] rfl (he1 u15)
    · refine aw_aload_n (i := 0) dX11_digest_124 125 rfl rfl 0 rfl ?_
      refine aw_aload_n (i := 0) dX11_digest_125 126 rfl rfl 0 rfl ?_
      refine gf_X11_6 dX11_digest_126 129 rfl wd_228 (ok_11 (by decide)) ?_
      refine aw_iload_n (i := 1) dX11_digest_129 130 rfl rfl 1 rfl ?_
      refine aw_iald dX11_digest_130 131 rfl at_66 (al_66 _) (ok_66 (by decide)) (fun h12 => ?_)
      refine aw_jn (fun k => ∀ (w2 : Int64) (u16 : qM), qAW l G m_X11_digest (q_mq G q_cL) 147 [(0, .ref (q_ad G 11 0)), (1, .int x7)] [.long w2, .ref (q_ad G 11 0)] u16 (k w2 u16)) ?_ ?_
      · intro w2 u16
        refine aw_callV (M2 := m_X11_mix) (cv := q_cU) dX11_digest_147 150 rfl (k_X11_mix l G w2  u16) wd_345 wv_X11_mix pk_X11_mix rfl rfl ⟨by decide, by decide⟩ ⟨Nat.zero_le _, Nat.zero_le _⟩ at_11 (ok_11 (by decide)) rfl rfl rfl (Nat.le_of_ble_eq_true rfl) (fun _z u17 => ?_)
        show qAW l G m_X11_digest (q_mq G q_cL) 150 [(0, .ref (q_ad G 11 0)), (1, .int x7)] [] u17 _
        refine aw_iconst (x := 0) dX11_digest_150 151 rfl rfl ?_
        refine aw_istore_n dX11_digest_151 152 rfl rfl [(2, .int 0), (0, .ref (q_ad G 11 0)), (1, .int x7)] (by decide) rfl ?_
        refine aw_conv [1, 2, 0] rfl (TL_X11_digest_152 l G x7  _ ?_ _ 0 u17)
        · intro u20
          refine aw_iincx (i := 1) dX11_digest_184 187 rfl 1 rfl 1 rfl (fun x10 => [(1, .int x10), (0, .ref (q_ad G 11 0))]) (by decide) (fun _ => rfl) (fun x10 => ?_)
          refine aw_goto dX11_digest_187 118 rfl ?_
          exact aw_conv [1, 0] rfl (ih x10 u20)
      · intro j3 hj3
        refine aw_if_ge dX11_digest_131 134 rfl 140 rfl (fun h13 => ?_) (fun h13 => ?_)
        · refine aw_aload_n (i := 0) dX11_digest_140 141 rfl rfl 0 rfl ?_
          refine gf_X11_6 dX11_digest_141 144 rfl wd_228 (ok_11 (by decide)) ?_
          refine aw_iload_n (i := 1) dX11_digest_144 145 rfl rfl 1 rfl ?_
          refine aw_iald dX11_digest_145 146 rfl at_66 (al_66 _) (ok_66 (by decide)) (fun h17 => ?_)
          refine aw_i2l dX11_digest_146 147 rfl ?_
          exact hj3 (Int32.toInt64 (u15.1 66 0 (Int32.toNatClampNeg x7))) u15
        · refine aw_ldc2 (x := (-1)) dX11_digest_134 137 rfl wd_325 ?_
          refine aw_goto dX11_digest_137 147 rfl ?_
          exact hj3 (-1) u15
set_option maxRecDepth 100000 in
set_option maxHeartbeats 4000000 in
theorem TL_X11_digest_226 (l : Launch) (G : qG) (x11 : Int32)  (e1 : qM → Option (Int64 × qM)) (he1 : ∀  (v : qM), qAW l G m_X11_digest (q_mq G q_cL) 258 [(0, .ref (q_ad G 11 0)), (1, .int x11)] [] v (e1 v)) : ∀ (n : Nat) (x12 : Int32) (u25 : qM), qAW l G m_X11_digest (q_mq G q_cL) 226 [(0, .ref (q_ad G 11 0)), (1, .int x11), (2, .int x12)] [] u25 (L_X11_digest_226 x11 n x12 u25 e1) := by
  intro n
  induction n with
  | zero => intros; exact aw_none
  | succ n ih =>
    intro x12 u25
    unfold L_X11_digest_226
    refine aw_iload_n (i := 2) dX11_digest_226 227 rfl rfl 2 rfl ?_
    refine aw_aload_n (i := 0) dX11_digest_227 228 rfl rfl 0 rfl ?_
    refine gf_X11_9 dX11_digest_228 231 rfl wd_237 (ok_11 (by decide)) ?_
    refine aw_iload_n (i := 1) dX11_digest_231 232 rfl rfl 1 rfl ?_
    refine aw_iald dX11_digest_232 233 rfl at_69 (al_69 _) (ok_69 (by decide)) (fun h21 => ?_)
    refine aw_icmp_ge dX11_digest_233 236 rfl 258 rfl (fun h22 => ?_) (fun h22 => ?_)
    · exact aw_conv [0, 1] rfl (he1 u25)
    · refine aw_aload_n (i := 0) dX11_digest_236 237 rfl rfl 0 rfl ?_
      refine aw_aload_n (i := 0) dX11_digest_237 238 rfl rfl 0 rfl ?_
      refine gf_X11_10 dX11_digest_238 241 rfl wd_238 (ok_11 (by decide)) ?_
      refine aw_bipush (x := 40) dX11_digest_241 243 rfl rfl ?_
      refine aw_iload_n (i := 1) dX11_digest_243 244 rfl rfl 1 rfl ?_
      refine aw_imul dX11_digest_244 245 rfl ?_
      refine aw_iload_n (i := 2) dX11_digest_245 246 rfl rfl 2 rfl ?_
      refine aw_iadd dX11_digest_246 247 rfl ?_
      refine aw_iald dX11_digest_247 248 rfl at_70 (al_70 _) (ok_70 (by decide)) (fun h23 => ?_)
      refine aw_i2l dX11_digest_248 249 rfl ?_
      refine aw_callV (M2 := m_X11_mix) (cv := q_cU) dX11_digest_249 252 rfl (k_X11_mix l G (Int32.toInt64 (u25.1 70 0 (Int32.toNatClampNeg ((40 * x11) + x12))))  u25) wd_345 wv_X11_mix pk_X11_mix rfl rfl ⟨by decide, by decide⟩ ⟨Nat.zero_le _, Nat.zero_le _⟩ at_11 (ok_11 (by decide)) rfl rfl rfl (Nat.le_of_ble_eq_true rfl) (fun _z u26 => ?_)
      show qAW l G m_X11_digest (q_mq G q_cL) 252 [(0, .ref (q_ad G 11 0)), (1, .int x11), (2, .int x12)] [] u26 _
      refine aw_iincx (i := 2) dX11_digest_252 255 rfl 2 rfl 1 rfl (fun x13 => [(2, .int x13), (0, .ref (q_ad G 11 0)), (1, .int x11)]) (by decide) (fun _ => rfl) (fun x13 => ?_)
      refine aw_goto dX11_digest_255 226 rfl ?_
      exact aw_conv [1, 2, 0] rfl (ih x13 u26)
set_option maxRecDepth 100000 in
set_option maxHeartbeats 4000000 in
theorem TL_X11_digest_192 (l : Launch) (G : qG)   (e1 : qM → Option (Int64 × qM)) (he1 : ∀  (v : qM), qAW l G m_X11_digest (q_mq G q_cL) 264 [(0, .ref (q_ad G 11 0))] [] v (e1 v)) : ∀ (n : Nat) (x11 : Int32) (u22 : qM), qAW l G m_X11_digest (q_mq G q_cL) 192 [(0, .ref (q_ad G 11 0)), (1, .int x11)] [] u22 (L_X11_digest_192 n x11 u22 e1) := by
  intro n
  induction n with
  | zero => intros; exact aw_none
  | succ n ih =>
    intro x11 u22
    unfold L_X11_digest_192
    refine aw_iload_n (i := 1) dX11_digest_192 193 rfl rfl 1 rfl ?_
    refine aw_bipush (x := 6) dX11_digest_193 195 rfl rfl ?_
    refine aw_icmp_ge dX11_digest_195 198 rfl 264 rfl (fun h18 => ?_) (fun h18 => ?_)
    · exact aw_conv [0] rfl (he1 u22)
    · refine aw_aload_n (i := 0) dX11_digest_198 199 rfl rfl 0 rfl ?_
      refine aw_aload_n (i := 0) dX11_digest_199 200 rfl rfl 0 rfl ?_
      refine gf_X11_9 dX11_digest_200 203 rfl wd_237 (ok_11 (by decide)) ?_
      refine aw_iload_n (i := 1) dX11_digest_203 204 rfl rfl 1 rfl ?_
      refine aw_iald dX11_digest_204 205 rfl at_69 (al_69 _) (ok_69 (by decide)) (fun h19 => ?_)
      refine aw_jn (fun k => ∀ (w3 : Int64) (u23 : qM), qAW l G m_X11_digest (q_mq G q_cL) 221 [(0, .ref (q_ad G 11 0)), (1, .int x11)] [.long w3, .ref (q_ad G 11 0)] u23 (k w3 u23)) ?_ ?_
      · intro w3 u23
        refine aw_callV (M2 := m_X11_mix) (cv := q_cU) dX11_digest_221 224 rfl (k_X11_mix l G w3  u23) wd_345 wv_X11_mix pk_X11_mix rfl rfl ⟨by decide, by decide⟩ ⟨Nat.zero_le _, Nat.zero_le _⟩ at_11 (ok_11 (by decide)) rfl rfl rfl (Nat.le_of_ble_eq_true rfl) (fun _z u24 => ?_)
        show qAW l G m_X11_digest (q_mq G q_cL) 224 [(0, .ref (q_ad G 11 0)), (1, .int x11)] [] u24 _
        refine aw_iconst (x := 0) dX11_digest_224 225 rfl rfl ?_
        refine aw_istore_n dX11_digest_225 226 rfl rfl [(2, .int 0), (0, .ref (q_ad G 11 0)), (1, .int x11)] (by decide) rfl ?_
        refine aw_conv [1, 2, 0] rfl (TL_X11_digest_226 l G x11  _ ?_ _ 0 u24)
        · intro u27
          refine aw_iincx (i := 1) dX11_digest_258 261 rfl 1 rfl 1 rfl (fun x14 => [(1, .int x14), (0, .ref (q_ad G 11 0))]) (by decide) (fun _ => rfl) (fun x14 => ?_)
          refine aw_goto dX11_digest_261 192 rfl ?_
          exact aw_conv [1, 0] rfl (ih x14 u27)
      · intro j4 hj4
        refine aw_if_ge dX11_digest_205 208 rfl 214 rfl (fun h20 => ?_) (fun h20 => ?_)
        · refine aw_aload_n (i := 0) dX11_digest_214 215 rfl rfl 0 rfl ?_
          refine gf_X11_9 dX11_digest_215 218 rfl wd_237 (ok_11 (by decide)) ?_
          refine aw_iload_n (i := 1) dX11_digest_218 219 rfl rfl 1 rfl ?_
          refine aw_iald dX11_digest_219 220 rfl at_69 (al_69 _) (ok_69 (by decide)) (fun h24 => ?_)
          refine aw_i2l dX11_digest_220 221 rfl ?_
          exact hj4 (Int32.toInt64 (u22.1 69 0 (Int32.toNatClampNeg x11))) u22
        · refine aw_ldc2 (x := (-1)) dX11_digest_208 211 rfl wd_325 ?_
          refine aw_goto dX11_digest_211 221 rfl ?_
          exact hj4 (-1) u22
set_option maxRecDepth 100000 in
set_option maxHeartbeats 4000000 in
theorem k_X11_digest (l : Launch) (G : qG)   (u0 : qM) : qCt l G m_X11_digest q_cL [.ref (q_ad G 11 0)] u0 (f_X11_digest  u0) := by
  refine q_entry pk_X11_digest (Nat.le_of_ble_eq_true rfl) ?_
  show qAW l G m_X11_digest (q_mq G q_cL) 0 [(0, .ref (q_ad G 11 0))] [] u0 (f_X11_digest  u0)
  unfold f_X11_digest
  refine aw_aload_n (i := 0) dX11_digest_0 1 rfl rfl 0 rfl ?_
  refine aw_ldc2 (x := 17) dX11_digest_1 4 rfl wd_347 ?_
  refine pf_X11_65 dX11_digest_4 7 rfl wd_344 (ok_11 (by decide)) ?_
  refine aw_ltm (fun u1 => ?_)
  refine aw_iconst (x := 0) dX11_digest_7 8 rfl rfl ?_
  refine aw_istore_n dX11_digest_8 9 rfl rfl [(1, .int 0), (0, .ref (q_ad G 11 0))] (by decide) rfl ?_
  refine aw_conv [1, 0] rfl (TL_X11_digest_9 l G   _ ?_ _ 0 u1)
  · intro u4
    refine aw_iconst (x := 0) dX11_digest_26 27 rfl rfl ?_
    refine aw_istore_n dX11_digest_27 28 rfl rfl [(1, .int 0), (0, .ref (q_ad G 11 0))] (by decide) rfl ?_
    refine aw_conv [1, 0] rfl (TL_X11_digest_28 l G   _ ?_ _ 0 u4)
    · intro u11
      refine aw_iconst (x := 0) dX11_digest_97 98 rfl rfl ?_
      refine aw_istore_n dX11_digest_98 99 rfl rfl [(1, .int 0), (0, .ref (q_ad G 11 0))] (by decide) rfl ?_
      refine aw_conv [1, 0] rfl (TL_X11_digest_99 l G   _ ?_ _ 0 u11)
      · intro u14
        refine aw_iconst (x := 0) dX11_digest_116 117 rfl rfl ?_
        refine aw_istore_n dX11_digest_117 118 rfl rfl [(1, .int 0), (0, .ref (q_ad G 11 0))] (by decide) rfl ?_
        refine aw_conv [1, 0] rfl (TL_X11_digest_118 l G   _ ?_ _ 0 u14)
        · intro u21
          refine aw_iconst (x := 0) dX11_digest_190 191 rfl rfl ?_
          refine aw_istore_n dX11_digest_191 192 rfl rfl [(1, .int 0), (0, .ref (q_ad G 11 0))] (by decide) rfl ?_
          refine aw_conv [1, 0] rfl (TL_X11_digest_192 l G   _ ?_ _ 0 u21)
          · intro u28
            refine aw_aload_n (i := 0) dX11_digest_264 265 rfl rfl 0 rfl ?_
            refine gf_X11_65 dX11_digest_265 268 rfl wd_344 (ok_11 (by decide)) ?_
            exact aw_lret dX11_digest_268 rfl
