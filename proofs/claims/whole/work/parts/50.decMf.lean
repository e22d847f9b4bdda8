def mDeed1 (F : FT) (a : AT) (n : Nat) (P : Nat) (j : Nat) : Nat → Nat → Int32 → AT → Int32 × AT
  | 0, i, d, a1 => (d, a1)
  | ki + 1, i, d, a1 => if ((a1 10) i) = (nI j) then
      if ((a1 12) i) = 0 then
        if (mHas (F 7) (nI j)) = 0 then
          if (mCovered F a n (nI j)) = 0 then
            mDeed1 F a n P j ki (i + 1) d a1
          else
            if (mIsLate F a1) = 0 then
              mDeed1 F a n P j ki (i + 1) (d + 1) (updA a1 12 (upd (a1 12) i 1))
            else
              mDeed1 F a n P j ki (i + 1) d a1
        else
          if (mIsLate F a1) = 0 then
            mDeed1 F a n P j ki (i + 1) (d + 1) (updA a1 12 (upd (a1 12) i 1))
          else
            mDeed1 F a n P j ki (i + 1) d a1
      else
        mDeed1 F a n P j ki (i + 1) d a1
    else
      mDeed1 F a n P j ki (i + 1) d a1
def mDeed2 (F : FT) (n : Nat) (P : Nat) (j : Nat) : Nat → Nat → Int32 → AT → Int32 × AT
  | 0, jj, d, a1 => (d, a1)
  | kjj + 1, jj, d, a1 => if (mHas (F 7) (nI jj)) = 0 then
      mDeed2 F n P j kjj (jj + 1) d a1
    else
      if (mShortest F a1 n (nI j) (nI jj)) = 0 then
        mDeed2 F n P j kjj (jj + 1) d a1
      else
        mDeed2 F n P j kjj (jj + 1) (d + ((mShownBy F a1 n (nI j) (nI jj) (mBefore (nI j) (mShortest F a1 n (nI j) (nI jj)))).1)) ((mShownBy F a1 n (nI j) (nI jj) (mBefore (nI j) (mShortest F a1 n (nI j) (nI jj)))).2)
def mDeed3 (F : FT) (n : Nat) (P : Nat) (j : Nat) : Nat → Nat → Int32 → AT → Int32 × AT
  | 0, i, d, a1 => (d, a1)
  | ki + 1, i, d, a1 => if ((a1 10) i) = (nI j) then
      if ((a1 12) i) = 1 then
        if (mIsLate F a1) = 0 then
          mDeed3 F n P j ki (i + 1) d a1
        else
          mDeed3 F n P j ki (i + 1) (d + 1) (updA a1 12 (upd (a1 12) i 3))
      else
        mDeed3 F n P j ki (i + 1) d a1
    else
      mDeed3 F n P j ki (i + 1) d a1
def mSelf (F : FT) (a : AT) (n : Nat) (P : Nat) (j : Nat) : Int32 × AT :=
  if (mHas (F 7) (nI j)) = 0 then
    ((mDeed1 F a n P j n 0 0 a).1, (mDeed1 F a n P j n 0 0 a).2)
  else
    if (mCovered F a n (nI j)) = 0 then
      ((mDeed1 F a n P j n 0 0 a).1, (mDeed1 F a n P j n 0 0 a).2)
    else
      (((mDeed1 F a n P j n 0 0 a).1) + ((mShownBy F ((mDeed1 F a n P j n 0 0 a).2) n (nI j) (nI j) (mBefore (nI j) 0)).1), (mShownBy F ((mDeed1 F a n P j n 0 0 a).2) n (nI j) (nI j) (mBefore (nI j) 0)).2)
def mDeeds (F : FT) (a : AT) (n : Nat) (P : Nat) (j : Nat) : Int32 × AT :=
  ((mDeed3 F n P j n 0 ((mDeed2 F n P j P 0 ((mSelf F a n P j).1) ((mSelf F a n P j).2)).1) ((mDeed2 F n P j P 0 ((mSelf F a n P j).1) ((mSelf F a n P j).2)).2)).1, (mDeed3 F n P j n 0 ((mDeed2 F n P j P 0 ((mSelf F a n P j).1) ((mSelf F a n P j).2)).1) ((mDeed2 F n P j P 0 ((mSelf F a n P j).1) ((mSelf F a n P j).2)).2)).2)
theorem dM_deeds_0 : decode bM_deeds 0 = .ok (.iconst 0, 1) := by decide +kernel
theorem dM_deeds_1 : decode bM_deeds 1 = .ok (.istore_n 2, 1) := by decide +kernel
theorem dM_deeds_2 : decode bM_deeds 2 = .ok (.aload_n 0, 1) := by decide +kernel
theorem dM_deeds_3 : decode bM_deeds 3 = .ok (.getfield 86, 3) := by decide +kernel
theorem dM_deeds_6 : decode bM_deeds 6 = .ok (.iload_n 1, 1) := by decide +kernel
theorem dM_deeds_7 : decode bM_deeds 7 = .ok (.invokestatic 49, 3) := by decide +kernel
theorem dM_deeds_10 : decode bM_deeds 10 = .ok (.istore_n 3, 1) := by decide +kernel
theorem dM_deeds_11 : decode bM_deeds 11 = .ok (.aload_n 0, 1) := by decide +kernel
theorem dM_deeds_12 : decode bM_deeds 12 = .ok (.iload_n 1, 1) := by decide +kernel
theorem dM_deeds_13 : decode bM_deeds 13 = .ok (.invokevirtual 97, 3) := by decide +kernel
theorem dM_deeds_16 : decode bM_deeds 16 = .ok (.istore 4, 2) := by decide +kernel
theorem dM_deeds_18 : decode bM_deeds 18 = .ok (.iconst 0, 1) := by decide +kernel
theorem dM_deeds_19 : decode bM_deeds 19 = .ok (.istore 5, 2) := by decide +kernel
theorem dM_deeds_21 : decode bM_deeds 21 = .ok (.iload 5, 2) := by decide +kernel
theorem dM_deeds_23 : decode bM_deeds 23 = .ok (.aload_n 0, 1) := by decide +kernel
theorem dM_deeds_24 : decode bM_deeds 24 = .ok (.getfield 42, 3) := by decide +kernel
theorem dM_deeds_27 : decode bM_deeds 27 = .ok (.if_icmp .ge 60, 3) := by decide +kernel
theorem dM_deeds_30 : decode bM_deeds 30 = .ok (.aload_n 0, 1) := by decide +kernel
theorem dM_deeds_31 : decode bM_deeds 31 = .ok (.getfield 7, 3) := by decide +kernel
theorem dM_deeds_34 : decode bM_deeds 34 = .ok (.iload 5, 2) := by decide +kernel
theorem dM_deeds_36 : decode bM_deeds 36 = .ok (.iaload, 1) := by decide +kernel
theorem dM_deeds_37 : decode bM_deeds 37 = .ok (.iload_n 1, 1) := by decide +kernel
theorem dM_deeds_38 : decode bM_deeds 38 = .ok (.if_icmp .ne 43, 3) := by decide +kernel
theorem dM_deeds_41 : decode bM_deeds 41 = .ok (.aload_n 0, 1) := by decide +kernel
theorem dM_deeds_42 : decode bM_deeds 42 = .ok (.getfield 16, 3) := by decide +kernel
theorem dM_deeds_45 : decode bM_deeds 45 = .ok (.iload 5, 2) := by decide +kernel
theorem dM_deeds_47 : decode bM_deeds 47 = .ok (.iaload, 1) := by decide +kernel
theorem dM_deeds_48 : decode bM_deeds 48 = .ok (.ifCond .ne 33, 3) := by decide +kernel
theorem dM_deeds_51 : decode bM_deeds 51 = .ok (.iload_n 3, 1) := by decide +kernel
theorem dM_deeds_52 : decode bM_deeds 52 = .ok (.ifCond .ne 8, 3) := by decide +kernel
theorem dM_deeds_55 : decode bM_deeds 55 = .ok (.iload 4, 2) := by decide +kernel
theorem dM_deeds_57 : decode bM_deeds 57 = .ok (.ifCond .eq 24, 3) := by decide +kernel
theorem dM_deeds_60 : decode bM_deeds 60 = .ok (.aload_n 0, 1) := by decide +kernel
theorem dM_deeds_61 : decode bM_deeds 61 = .ok (.invokevirtual 100, 3) := by decide +kernel
theorem dM_deeds_64 : decode bM_deeds 64 = .ok (.ifCond .eq 6, 3) := by decide +kernel
theorem dM_deeds_67 : decode bM_deeds 67 = .ok (.goto 14, 3) := by decide +kernel
theorem dM_deeds_70 : decode bM_deeds 70 = .ok (.aload_n 0, 1) := by decide +kernel
theorem dM_deeds_71 : decode bM_deeds 71 = .ok (.getfield 16, 3) := by decide +kernel
theorem dM_deeds_74 : decode bM_deeds 74 = .ok (.iload 5, 2) := by decide +kernel
theorem dM_deeds_76 : decode bM_deeds 76 = .ok (.iconst 1, 1) := by decide +kernel
theorem dM_deeds_77 : decode bM_deeds 77 = .ok (.iastore, 1) := by decide +kernel
theorem dM_deeds_78 : decode bM_deeds 78 = .ok (.iinc 2 1, 3) := by decide +kernel
theorem dM_deeds_81 : decode bM_deeds 81 = .ok (.iinc 5 1, 3) := by decide +kernel
theorem dM_deeds_84 : decode bM_deeds 84 = .ok (.goto (-63), 3) := by decide +kernel
theorem dM_deeds_87 : decode bM_deeds 87 = .ok (.iload_n 3, 1) := by decide +kernel
theorem dM_deeds_88 : decode bM_deeds 88 = .ok (.ifCond .eq 22, 3) := by decide +kernel
theorem dM_deeds_91 : decode bM_deeds 91 = .ok (.iload 4, 2) := by decide +kernel
theorem dM_deeds_93 : decode bM_deeds 93 = .ok (.ifCond .eq 17, 3) := by decide +kernel
theorem dM_deeds_96 : decode bM_deeds 96 = .ok (.iload_n 2, 1) := by decide +kernel
theorem dM_deeds_97 : decode bM_deeds 97 = .ok (.aload_n 0, 1) := by decide +kernel
theorem dM_deeds_98 : decode bM_deeds 98 = .ok (.iload_n 1, 1) := by decide +kernel
theorem dM_deeds_99 : decode bM_deeds 99 = .ok (.iload_n 1, 1) := by decide +kernel
theorem dM_deeds_100 : decode bM_deeds 100 = .ok (.iload_n 1, 1) := by decide +kernel
theorem dM_deeds_101 : decode bM_deeds 101 = .ok (.iconst 0, 1) := by decide +kernel
theorem dM_deeds_102 : decode bM_deeds 102 = .ok (.invokestatic 104, 3) := by decide +kernel
theorem dM_deeds_105 : decode bM_deeds 105 = .ok (.invokevirtual 107, 3) := by decide +kernel
theorem dM_deeds_108 : decode bM_deeds 108 = .ok (.iadd, 1) := by decide +kernel
theorem dM_deeds_109 : decode bM_deeds 109 = .ok (.istore_n 2, 1) := by decide +kernel
theorem dM_deeds_110 : decode bM_deeds 110 = .ok (.iconst 0, 1) := by decide +kernel
theorem dM_deeds_111 : decode bM_deeds 111 = .ok (.istore 5, 2) := by decide +kernel
theorem dM_deeds_113 : decode bM_deeds 113 = .ok (.iload 5, 2) := by decide +kernel
theorem dM_deeds_115 : decode bM_deeds 115 = .ok (.aload_n 0, 1) := by decide +kernel
theorem dM_deeds_116 : decode bM_deeds 116 = .ok (.getfield 32, 3) := by decide +kernel
theorem dM_deeds_119 : decode bM_deeds 119 = .ok (.if_icmp .ge 55, 3) := by decide +kernel
theorem dM_deeds_122 : decode bM_deeds 122 = .ok (.aload_n 0, 1) := by decide +kernel
theorem dM_deeds_123 : decode bM_deeds 123 = .ok (.getfield 86, 3) := by decide +kernel
theorem dM_deeds_126 : decode bM_deeds 126 = .ok (.iload 5, 2) := by decide +kernel
theorem dM_deeds_128 : decode bM_deeds 128 = .ok (.invokestatic 49, 3) := by decide +kernel
theorem dM_deeds_131 : decode bM_deeds 131 = .ok (.ifCond .eq 13, 3) := by decide +kernel
theorem dM_deeds_134 : decode bM_deeds 134 = .ok (.aload_n 0, 1) := by decide +kernel
theorem dM_deeds_135 : decode bM_deeds 135 = .ok (.iload_n 1, 1) := by decide +kernel
theorem dM_deeds_136 : decode bM_deeds 136 = .ok (.iload 5, 2) := by decide +kernel
theorem dM_deeds_138 : decode bM_deeds 138 = .ok (.invokevirtual 111, 3) := by decide +kernel
theorem dM_deeds_141 : decode bM_deeds 141 = .ok (.goto 4, 3) := by decide +kernel
theorem dM_deeds_144 : decode bM_deeds 144 = .ok (.iconst 0, 1) := by decide +kernel
theorem dM_deeds_145 : decode bM_deeds 145 = .ok (.istore 6, 2) := by decide +kernel
theorem dM_deeds_147 : decode bM_deeds 147 = .ok (.iload 6, 2) := by decide +kernel
theorem dM_deeds_149 : decode bM_deeds 149 = .ok (.ifCond .eq 19, 3) := by decide +kernel
theorem dM_deeds_152 : decode bM_deeds 152 = .ok (.iload_n 2, 1) := by decide +kernel
theorem dM_deeds_153 : decode bM_deeds 153 = .ok (.aload_n 0, 1) := by decide +kernel
theorem dM_deeds_154 : decode bM_deeds 154 = .ok (.iload_n 1, 1) := by decide +kernel
theorem dM_deeds_155 : decode bM_deeds 155 = .ok (.iload 5, 2) := by decide +kernel
theorem dM_deeds_157 : decode bM_deeds 157 = .ok (.iload_n 1, 1) := by decide +kernel
theorem dM_deeds_158 : decode bM_deeds 158 = .ok (.iload 6, 2) := by decide +kernel
theorem dM_deeds_160 : decode bM_deeds 160 = .ok (.invokestatic 104, 3) := by decide +kernel
theorem dM_deeds_163 : decode bM_deeds 163 = .ok (.invokevirtual 107, 3) := by decide +kernel
theorem dM_deeds_166 : decode bM_deeds 166 = .ok (.iadd, 1) := by decide +kernel
theorem dM_deeds_167 : decode bM_deeds 167 = .ok (.istore_n 2, 1) := by decide +kernel
theorem dM_deeds_168 : decode bM_deeds 168 = .ok (.iinc 5 1, 3) := by decide +kernel
theorem dM_deeds_171 : decode bM_deeds 171 = .ok (.goto (-58), 3) := by decide +kernel
theorem dM_deeds_174 : decode bM_deeds 174 = .ok (.iconst 0, 1) := by decide +kernel
theorem dM_deeds_175 : decode bM_deeds 175 = .ok (.istore 5, 2) := by decide +kernel
theorem dM_deeds_177 : decode bM_deeds 177 = .ok (.iload 5, 2) := by decide +kernel
theorem dM_deeds_179 : decode bM_deeds 179 = .ok (.aload_n 0, 1) := by decide +kernel
theorem dM_deeds_180 : decode bM_deeds 180 = .ok (.getfield 42, 3) := by decide +kernel
theorem dM_deeds_183 : decode bM_deeds 183 = .ok (.if_icmp .ge 52, 3) := by decide +kernel
theorem dM_deeds_186 : decode bM_deeds 186 = .ok (.aload_n 0, 1) := by decide +kernel
theorem dM_deeds_187 : decode bM_deeds 187 = .ok (.getfield 7, 3) := by decide +kernel
theorem dM_deeds_190 : decode bM_deeds 190 = .ok (.iload 5, 2) := by decide +kernel
theorem dM_deeds_192 : decode bM_deeds 192 = .ok (.iaload, 1) := by decide +kernel
theorem dM_deeds_193 : decode bM_deeds 193 = .ok (.iload_n 1, 1) := by decide +kernel
theorem dM_deeds_194 : decode bM_deeds 194 = .ok (.if_icmp .ne 35, 3) := by decide +kernel
theorem dM_deeds_197 : decode bM_deeds 197 = .ok (.aload_n 0, 1) := by decide +kernel
theorem dM_deeds_198 : decode bM_deeds 198 = .ok (.getfield 16, 3) := by decide +kernel
theorem dM_deeds_201 : decode bM_deeds 201 = .ok (.iload 5, 2) := by decide +kernel
theorem dM_deeds_203 : decode bM_deeds 203 = .ok (.iaload, 1) := by decide +kernel
theorem dM_deeds_204 : decode bM_deeds 204 = .ok (.iconst 1, 1) := by decide +kernel
theorem dM_deeds_205 : decode bM_deeds 205 = .ok (.if_icmp .ne 24, 3) := by decide +kernel
theorem dM_deeds_208 : decode bM_deeds 208 = .ok (.aload_n 0, 1) := by decide +kernel
theorem dM_deeds_209 : decode bM_deeds 209 = .ok (.invokevirtual 100, 3) := by decide +kernel
theorem dM_deeds_212 : decode bM_deeds 212 = .ok (.ifCond .ne 6, 3) := by decide +kernel
theorem dM_deeds_215 : decode bM_deeds 215 = .ok (.goto 14, 3) := by decide +kernel
theorem dM_deeds_218 : decode bM_deeds 218 = .ok (.aload_n 0, 1) := by decide +kernel
theorem dM_deeds_219 : decode bM_deeds 219 = .ok (.getfield 16, 3) := by decide +kernel
theorem dM_deeds_222 : decode bM_deeds 222 = .ok (.iload 5, 2) := by decide +kernel
theorem dM_deeds_224 : decode bM_deeds 224 = .ok (.iconst 3, 1) := by decide +kernel
theorem dM_deeds_225 : decode bM_deeds 225 = .ok (.iastore, 1) := by decide +kernel
theorem dM_deeds_226 : decode bM_deeds 226 = .ok (.iinc 2 1, 3) := by decide +kernel
theorem dM_deeds_229 : decode bM_deeds 229 = .ok (.iinc 5 1, 3) := by decide +kernel
theorem dM_deeds_232 : decode bM_deeds 232 = .ok (.goto (-55), 3) := by decide +kernel
theorem dM_deeds_235 : decode bM_deeds 235 = .ok (.iload_n 2, 1) := by decide +kernel
theorem dM_deeds_236 : decode bM_deeds 236 = .ok (.ireturn, 1) := by decide +kernel
theorem inM_deeds_M : ∀ x ∈ u_ws RcM TcM 18, x ∈ wM_deeds := by decide +kernel
set_option maxRecDepth 20000 in
theorem gM_deeds_M_has : GoodIn wM_deeds (va_wsS RcM 49 yM_has wM_has) := goodIn_app (goodIn_of _ (by decide +kernel)) (goodIn_r _ [23] (by decide +kernel) (by decide +kernel))
set_option maxRecDepth 20000 in
theorem gM_deeds_M_isCovered : GoodIn wM_deeds (wsV RcM 97 RcM yM_isCovered wM_isCovered) := goodIn_app (goodIn_of _ (by decide +kernel)) (goodIn_r _ [24, 8, 25, 10, 54, 55, 56, 57, 58, 59, 60, 61, 62, 63, 64, 65, 66, 67, 68, 69, 70, 71] (by decide +kernel) (by decide +kernel))
set_option maxRecDepth 20000 in
theorem gM_deeds_M_isLate : GoodIn wM_deeds (wsV RcM 100 RcM yM_isLate wM_isLate) := goodIn_app (goodIn_of _ (by decide +kernel)) (goodIn_r _ [26, 27, 28, 29, 30, 54, 55, 56, 57, 58, 59, 60, 61, 62, 63, 64, 65, 66, 67, 68, 69, 70, 71] (by decide +kernel) (by decide +kernel))
set_option maxRecDepth 20000 in
theorem gM_deeds_M_shortest : GoodIn wM_deeds (wsV RcM 111 RcM yM_shortest wM_shortest) := goodIn_app (goodIn_of _ (by decide +kernel)) (goodIn_r _ [50, 8, 48, 9, 37, 2, 3, 4, 51, 52, 33, 34, 23, 53, 46, 47, 35, 49, 54, 55, 56, 57, 58, 59, 60, 61, 62, 63, 64, 65, 66, 67, 68, 69, 70, 71] (by decide +kernel) (by decide +kernel))
set_option maxRecDepth 20000 in
theorem gM_deeds_M_before : GoodIn wM_deeds (va_wsS RcM 104 yM_before wM_before) := goodIn_app (goodIn_of _ (by decide +kernel)) (goodIn_r _ [31, 32, 33, 34, 4, 35] (by decide +kernel) (by decide +kernel))
set_option maxRecDepth 20000 in
theorem gM_deeds_M_shownBy : GoodIn wM_deeds (wsV RcM 107 RcM yM_shownBy wM_shownBy) := goodIn_app (goodIn_of _ (by decide +kernel)) (goodIn_r _ [36, 8, 25, 10, 37, 2, 3, 4, 33, 34, 38, 39, 40, 41, 42, 43, 23, 35, 44, 27, 28, 29, 30, 45, 46, 47, 48, 1, 49, 54, 55, 56, 57, 58, 59, 60, 61, 62, 63, 64, 65, 66, 67, 68, 69, 70, 71] (by decide +kernel) (by decide +kernel))
