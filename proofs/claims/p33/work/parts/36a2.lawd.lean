theorem dL_refused_738 : decode cL_refused 738 = .ok (.aload_n 0, 1) := by decide +kernel
theorem dL_refused_739 : decode cL_refused 739 = .ok (.iconst 0, 1) := by decide +kernel
theorem dL_refused_740 : decode cL_refused 740 = .ok (.iconst 0, 1) := by decide +kernel
theorem dL_refused_741 : decode cL_refused 741 = .ok (.invokestatic 181, 3) := by decide +kernel
theorem dL_refused_744 : decode cL_refused 744 = .ok (.invokestatic 245, 3) := by decide +kernel
theorem dL_refused_747 : decode cL_refused 747 = .ok (.ifCond .eq 48, 3) := by decide +kernel
theorem dL_refused_750 : decode cL_refused 750 = .ok (.aload_n 0, 1) := by decide +kernel
theorem dL_refused_751 : decode cL_refused 751 = .ok (.iconst 3, 1) := by decide +kernel
theorem dL_refused_752 : decode cL_refused 752 = .ok (.invokestatic 206, 3) := by decide +kernel
theorem dL_refused_755 : decode cL_refused 755 = .ok (.sipush (-1002), 3) := by decide +kernel
theorem dL_refused_758 : decode cL_refused 758 = .ok (.if_icmp .ne 37, 3) := by decide +kernel
theorem dL_refused_761 : decode cL_refused 761 = .ok (.aload_n 0, 1) := by decide +kernel
theorem dL_refused_762 : decode cL_refused 762 = .ok (.iconst 2, 1) := by decide +kernel
theorem dL_refused_763 : decode cL_refused 763 = .ok (.iconst 0, 1) := by decide +kernel
theorem dL_refused_764 : decode cL_refused 764 = .ok (.invokestatic 245, 3) := by decide +kernel
theorem dL_refused_767 : decode cL_refused 767 = .ok (.ifCond .eq 28, 3) := by decide +kernel
theorem dL_refused_770 : decode cL_refused 770 = .ok (.aload_n 0, 1) := by decide +kernel
theorem dL_refused_771 : decode cL_refused 771 = .ok (.iconst 4, 1) := by decide +kernel
theorem dL_refused_772 : decode cL_refused 772 = .ok (.iconst 0, 1) := by decide +kernel
theorem dL_refused_773 : decode cL_refused 773 = .ok (.invokestatic 208, 3) := by decide +kernel
theorem dL_refused_776 : decode cL_refused 776 = .ok (.sipush (-1002), 3) := by decide +kernel
theorem dL_refused_779 : decode cL_refused 779 = .ok (.if_icmp .ne 16, 3) := by decide +kernel
theorem dL_refused_782 : decode cL_refused 782 = .ok (.aload_n 0, 1) := by decide +kernel
theorem dL_refused_783 : decode cL_refused 783 = .ok (.iconst 4, 1) := by decide +kernel
theorem dL_refused_784 : decode cL_refused 784 = .ok (.iconst 1, 1) := by decide +kernel
theorem dL_refused_785 : decode cL_refused 785 = .ok (.invokestatic 245, 3) := by decide +kernel
theorem dL_refused_788 : decode cL_refused 788 = .ok (.ifCond .eq 7, 3) := by decide +kernel
theorem dL_refused_791 : decode cL_refused 791 = .ok (.iconst 1, 1) := by decide +kernel
theorem dL_refused_792 : decode cL_refused 792 = .ok (.goto 4, 3) := by decide +kernel
theorem dL_refused_795 : decode cL_refused 795 = .ok (.iconst 0, 1) := by decide +kernel
theorem dL_refused_796 : decode cL_refused 796 = .ok (.istore 5, 2) := by decide +kernel
theorem dL_refused_798 : decode cL_refused 798 = .ok (.iload 5, 2) := by decide +kernel
theorem dL_refused_800 : decode cL_refused 800 = .ok (.ifCond .eq 87, 3) := by decide +kernel
theorem dL_refused_803 : decode cL_refused 803 = .ok (.aload_n 0, 1) := by decide +kernel
theorem dL_refused_804 : decode cL_refused 804 = .ok (.ldc 249, 2) := by decide +kernel
theorem dL_refused_806 : decode cL_refused 806 = .ok (.invokestatic 237, 3) := by decide +kernel
theorem dL_refused_809 : decode cL_refused 809 = .ok (.sipush (-1001), 3) := by decide +kernel
theorem dL_refused_812 : decode cL_refused 812 = .ok (.if_icmp .ne 75, 3) := by decide +kernel
theorem dL_refused_815 : decode cL_refused 815 = .ok (.aload_n 0, 1) := by decide +kernel
theorem dL_refused_816 : decode cL_refused 816 = .ok (.invokestatic 251, 3) := by decide +kernel
theorem dL_refused_819 : decode cL_refused 819 = .ok (.ifCond .ne 68, 3) := by decide +kernel
theorem dL_refused_822 : decode cL_refused 822 = .ok (.aload_n 0, 1) := by decide +kernel
theorem dL_refused_823 : decode cL_refused 823 = .ok (.iconst 4, 1) := by decide +kernel
theorem dL_refused_824 : decode cL_refused 824 = .ok (.iconst 1, 1) := by decide +kernel
theorem dL_refused_825 : decode cL_refused 825 = .ok (.invokestatic 245, 3) := by decide +kernel
theorem dL_refused_828 : decode cL_refused 828 = .ok (.ifCond .eq 59, 3) := by decide +kernel
theorem dL_refused_831 : decode cL_refused 831 = .ok (.aload_n 0, 1) := by decide +kernel
theorem dL_refused_832 : decode cL_refused 832 = .ok (.ldc 253, 2) := by decide +kernel
theorem dL_refused_834 : decode cL_refused 834 = .ok (.invokestatic 237, 3) := by decide +kernel
theorem dL_refused_837 : decode cL_refused 837 = .ok (.sipush (-1002), 3) := by decide +kernel
theorem dL_refused_840 : decode cL_refused 840 = .ok (.if_icmp .ne 47, 3) := by decide +kernel
theorem dL_refused_843 : decode cL_refused 843 = .ok (.aload_n 0, 1) := by decide +kernel
theorem dL_refused_844 : decode cL_refused 844 = .ok (.bipush 20, 2) := by decide +kernel
theorem dL_refused_846 : decode cL_refused 846 = .ok (.iconst 1, 1) := by decide +kernel
theorem dL_refused_847 : decode cL_refused 847 = .ok (.invokestatic 245, 3) := by decide +kernel
theorem dL_refused_850 : decode cL_refused 850 = .ok (.ifCond .eq 37, 3) := by decide +kernel
theorem dL_refused_853 : decode cL_refused 853 = .ok (.aload_n 0, 1) := by decide +kernel
theorem dL_refused_854 : decode cL_refused 854 = .ok (.ldc 255, 2) := by decide +kernel
theorem dL_refused_856 : decode cL_refused 856 = .ok (.invokestatic 237, 3) := by decide +kernel
theorem dL_refused_859 : decode cL_refused 859 = .ok (.sipush (-1002), 3) := by decide +kernel
theorem dL_refused_862 : decode cL_refused 862 = .ok (.if_icmp .ne 25, 3) := by decide +kernel
theorem dL_refused_865 : decode cL_refused 865 = .ok (.aload_n 0, 1) := by decide +kernel
theorem dL_refused_866 : decode cL_refused 866 = .ok (.iconst 4, 1) := by decide +kernel
theorem dL_refused_867 : decode cL_refused 867 = .ok (.iconst 0, 1) := by decide +kernel
theorem dL_refused_868 : decode cL_refused 868 = .ok (.invokestatic 245, 3) := by decide +kernel
theorem dL_refused_871 : decode cL_refused 871 = .ok (.ifCond .eq 16, 3) := by decide +kernel
theorem dL_refused_874 : decode cL_refused 874 = .ok (.aload_n 0, 1) := by decide +kernel
theorem dL_refused_875 : decode cL_refused 875 = .ok (.invokestatic 241, 3) := by decide +kernel
theorem dL_refused_878 : decode cL_refused 878 = .ok (.lload_n 1, 1) := by decide +kernel
theorem dL_refused_879 : decode cL_refused 879 = .ok (.lcmp, 1) := by decide +kernel
theorem dL_refused_880 : decode cL_refused 880 = .ok (.ifCond .ne 7, 3) := by decide +kernel
theorem dL_refused_883 : decode cL_refused 883 = .ok (.iconst 1, 1) := by decide +kernel
theorem dL_refused_884 : decode cL_refused 884 = .ok (.goto 4, 3) := by decide +kernel
theorem dL_refused_887 : decode cL_refused 887 = .ok (.iconst 0, 1) := by decide +kernel
theorem dL_refused_888 : decode cL_refused 888 = .ok (.ireturn, 1) := by decide +kernel
theorem dL_law_0 : decode cL_law 0 = .ok (.new 8, 3) := by decide +kernel
theorem dL_law_3 : decode cL_law 3 = .ok (.dup, 1) := by decide +kernel
theorem dL_law_4 : decode cL_law 4 = .ok (.invokespecial 257, 3) := by decide +kernel
theorem dL_law_7 : decode cL_law 7 = .ok (.astore_n 1, 1) := by decide +kernel
theorem dL_law_8 : decode cL_law 8 = .ok (.aload_n 1, 1) := by decide +kernel
theorem dL_law_9 : decode cL_law 9 = .ok (.invokestatic 258, 3) := by decide +kernel
theorem dL_law_12 : decode cL_law 12 = .ok (.sipush (-1001), 3) := by decide +kernel
theorem dL_law_15 : decode cL_law 15 = .ok (.if_icmp .ne 39, 3) := by decide +kernel
theorem dL_law_18 : decode cL_law 18 = .ok (.aload_n 1, 1) := by decide +kernel
theorem dL_law_19 : decode cL_law 19 = .ok (.invokestatic 260, 3) := by decide +kernel
theorem dL_law_22 : decode cL_law 22 = .ok (.sipush (-1001), 3) := by decide +kernel
theorem dL_law_25 : decode cL_law 25 = .ok (.if_icmp .ne 29, 3) := by decide +kernel
theorem dL_law_28 : decode cL_law 28 = .ok (.aload_n 1, 1) := by decide +kernel
theorem dL_law_29 : decode cL_law 29 = .ok (.invokevirtual 263, 3) := by decide +kernel
theorem dL_law_32 : decode cL_law 32 = .ok (.ifCond .ne 22, 3) := by decide +kernel
theorem dL_law_35 : decode cL_law 35 = .ok (.aload_n 1, 1) := by decide +kernel
theorem dL_law_36 : decode cL_law 36 = .ok (.bipush 40, 2) := by decide +kernel
theorem dL_law_38 : decode cL_law 38 = .ok (.invokestatic 157, 3) := by decide +kernel
theorem dL_law_41 : decode cL_law 41 = .ok (.ifCond .ne 13, 3) := by decide +kernel
theorem dL_law_44 : decode cL_law 44 = .ok (.aload_n 1, 1) := by decide +kernel
theorem dL_law_45 : decode cL_law 45 = .ok (.iconst 0, 1) := by decide +kernel
theorem dL_law_46 : decode cL_law 46 = .ok (.invokestatic 179, 3) := by decide +kernel
theorem dL_law_49 : decode cL_law 49 = .ok (.bipush 40, 2) := by decide +kernel
theorem dL_law_51 : decode cL_law 51 = .ok (.if_icmp .eq 5, 3) := by decide +kernel
theorem dL_law_54 : decode cL_law 54 = .ok (.iconst 0, 1) := by decide +kernel
theorem dL_law_55 : decode cL_law 55 = .ok (.ireturn, 1) := by decide +kernel
theorem dL_law_56 : decode cL_law 56 = .ok (.iconst 0, 1) := by decide +kernel
theorem dL_law_57 : decode cL_law 57 = .ok (.istore_n 2, 1) := by decide +kernel
theorem dL_law_58 : decode cL_law 58 = .ok (.iload_n 2, 1) := by decide +kernel
theorem dL_law_59 : decode cL_law 59 = .ok (.bipush 60, 2) := by decide +kernel
theorem dL_law_61 : decode cL_law 61 = .ok (.if_icmp .ge 26, 3) := by decide +kernel
theorem dL_law_64 : decode cL_law 64 = .ok (.aload_n 1, 1) := by decide +kernel
theorem dL_law_65 : decode cL_law 65 = .ok (.bipush 65, 2) := by decide +kernel
theorem dL_law_67 : decode cL_law 67 = .ok (.iload_n 2, 1) := by decide +kernel
theorem dL_law_68 : decode cL_law 68 = .ok (.iadd, 1) := by decide +kernel
theorem dL_law_69 : decode cL_law 69 = .ok (.i2c, 1) := by decide +kernel
theorem dL_law_70 : decode cL_law 70 = .ok (.invokestatic 127, 3) := by decide +kernel
theorem dL_law_73 : decode cL_law 73 = .ok (.iload_n 2, 1) := by decide +kernel
theorem dL_law_74 : decode cL_law 74 = .ok (.iconst 1, 1) := by decide +kernel
theorem dL_law_75 : decode cL_law 75 = .ok (.iadd, 1) := by decide +kernel
theorem dL_law_76 : decode cL_law 76 = .ok (.if_icmp .eq 5, 3) := by decide +kernel
theorem dL_law_79 : decode cL_law 79 = .ok (.iconst 0, 1) := by decide +kernel
theorem dL_law_80 : decode cL_law 80 = .ok (.ireturn, 1) := by decide +kernel
theorem dL_law_81 : decode cL_law 81 = .ok (.iinc 2 1, 3) := by decide +kernel
theorem dL_law_84 : decode cL_law 84 = .ok (.goto (-26), 3) := by decide +kernel
theorem dL_law_87 : decode cL_law 87 = .ok (.aload_n 1, 1) := by decide +kernel
theorem dL_law_88 : decode cL_law 88 = .ok (.bipush 116, 2) := by decide +kernel
theorem dL_law_90 : decode cL_law 90 = .ok (.invokestatic 127, 3) := by decide +kernel
theorem dL_law_93 : decode cL_law 93 = .ok (.sipush (-1001), 3) := by decide +kernel
theorem dL_law_96 : decode cL_law 96 = .ok (.if_icmp .ne 40, 3) := by decide +kernel
theorem dL_law_99 : decode cL_law 99 = .ok (.aload_n 1, 1) := by decide +kernel
theorem dL_law_100 : decode cL_law 100 = .ok (.bipush 17, 2) := by decide +kernel
theorem dL_law_102 : decode cL_law 102 = .ok (.invokestatic 179, 3) := by decide +kernel
theorem dL_law_105 : decode cL_law 105 = .ok (.bipush 60, 2) := by decide +kernel
theorem dL_law_107 : decode cL_law 107 = .ok (.if_icmp .ne 29, 3) := by decide +kernel
theorem dL_law_110 : decode cL_law 110 = .ok (.aload_n 1, 1) := by decide +kernel
theorem dL_law_111 : decode cL_law 111 = .ok (.invokestatic 132, 3) := by decide +kernel
theorem dL_law_114 : decode cL_law 114 = .ok (.sipush (-1001), 3) := by decide +kernel
theorem dL_law_117 : decode cL_law 117 = .ok (.if_icmp .ne 19, 3) := by decide +kernel
theorem dL_law_120 : decode cL_law 120 = .ok (.aload_n 1, 1) := by decide +kernel
theorem dL_law_121 : decode cL_law 121 = .ok (.invokestatic 251, 3) := by decide +kernel
theorem dL_law_124 : decode cL_law 124 = .ok (.ifCond .ne 12, 3) := by decide +kernel
theorem dL_law_127 : decode cL_law 127 = .ok (.aload_n 1, 1) := by decide +kernel
theorem dL_law_128 : decode cL_law 128 = .ok (.bipush 17, 2) := by decide +kernel
theorem dL_law_130 : decode cL_law 130 = .ok (.invokestatic 179, 3) := by decide +kernel
theorem dL_law_133 : decode cL_law 133 = .ok (.ifCond .eq 5, 3) := by decide +kernel
theorem dL_law_136 : decode cL_law 136 = .ok (.iconst 0, 1) := by decide +kernel
theorem dL_law_137 : decode cL_law 137 = .ok (.ireturn, 1) := by decide +kernel
theorem dL_law_138 : decode cL_law 138 = .ok (.iconst 0, 1) := by decide +kernel
theorem dL_law_139 : decode cL_law 139 = .ok (.istore_n 2, 1) := by decide +kernel
theorem dL_law_140 : decode cL_law 140 = .ok (.iload_n 2, 1) := by decide +kernel
theorem dL_law_141 : decode cL_law 141 = .ok (.bipush 6, 2) := by decide +kernel
theorem dL_law_143 : decode cL_law 143 = .ok (.if_icmp .ge 20, 3) := by decide +kernel
theorem dL_law_146 : decode cL_law 146 = .ok (.aload_n 1, 1) := by decide +kernel
theorem dL_law_147 : decode cL_law 147 = .ok (.iconst 4, 1) := by decide +kernel
theorem dL_law_148 : decode cL_law 148 = .ok (.invokestatic 150, 3) := by decide +kernel
theorem dL_law_151 : decode cL_law 151 = .ok (.iload_n 2, 1) := by decide +kernel
theorem dL_law_152 : decode cL_law 152 = .ok (.if_icmp .eq 5, 3) := by decide +kernel
theorem dL_law_155 : decode cL_law 155 = .ok (.iconst 0, 1) := by decide +kernel
theorem dL_law_156 : decode cL_law 156 = .ok (.ireturn, 1) := by decide +kernel
theorem dL_law_157 : decode cL_law 157 = .ok (.iinc 2 1, 3) := by decide +kernel
theorem dL_law_160 : decode cL_law 160 = .ok (.goto (-20), 3) := by decide +kernel
theorem dL_law_163 : decode cL_law 163 = .ok (.aload_n 1, 1) := by decide +kernel
theorem dL_law_164 : decode cL_law 164 = .ok (.iconst 0, 1) := by decide +kernel
theorem dL_law_165 : decode cL_law 165 = .ok (.invokestatic 150, 3) := by decide +kernel
theorem dL_law_168 : decode cL_law 168 = .ok (.sipush (-1002), 3) := by decide +kernel
theorem dL_law_171 : decode cL_law 171 = .ok (.if_icmp .ne 55, 3) := by decide +kernel
theorem dL_law_174 : decode cL_law 174 = .ok (.aload_n 1, 1) := by decide +kernel
theorem dL_law_175 : decode cL_law 175 = .ok (.iconst 1, 1) := by decide +kernel
theorem dL_law_176 : decode cL_law 176 = .ok (.bipush 6, 2) := by decide +kernel
theorem dL_law_178 : decode cL_law 178 = .ok (.invokestatic 245, 3) := by decide +kernel
theorem dL_law_181 : decode cL_law 181 = .ok (.ifCond .eq 45, 3) := by decide +kernel
theorem dL_law_184 : decode cL_law 184 = .ok (.aload_n 1, 1) := by decide +kernel
theorem dL_law_185 : decode cL_law 185 = .ok (.iconst 5, 1) := by decide +kernel
theorem dL_law_186 : decode cL_law 186 = .ok (.invokestatic 155, 3) := by decide +kernel
theorem dL_law_189 : decode cL_law 189 = .ok (.sipush (-1002), 3) := by decide +kernel
theorem dL_law_192 : decode cL_law 192 = .ok (.if_icmp .ne 34, 3) := by decide +kernel
theorem dL_law_195 : decode cL_law 195 = .ok (.aload_n 1, 1) := by decide +kernel
theorem dL_law_196 : decode cL_law 196 = .ok (.iconst 3, 1) := by decide +kernel
theorem dL_law_197 : decode cL_law 197 = .ok (.iconst 5, 1) := by decide +kernel
theorem dL_law_198 : decode cL_law 198 = .ok (.invokestatic 245, 3) := by decide +kernel
theorem dL_law_201 : decode cL_law 201 = .ok (.ifCond .eq 25, 3) := by decide +kernel
theorem dL_law_204 : decode cL_law 204 = .ok (.aload_n 1, 1) := by decide +kernel
theorem dL_law_205 : decode cL_law 205 = .ok (.iconst 0, 1) := by decide +kernel
theorem dL_law_206 : decode cL_law 206 = .ok (.invokestatic 189, 3) := by decide +kernel
theorem dL_law_209 : decode cL_law 209 = .ok (.sipush (-1002), 3) := by decide +kernel
theorem dL_law_212 : decode cL_law 212 = .ok (.if_icmp .ne 14, 3) := by decide +kernel
theorem dL_law_215 : decode cL_law 215 = .ok (.aload_n 1, 1) := by decide +kernel
theorem dL_law_216 : decode cL_law 216 = .ok (.iconst 0, 1) := by decide +kernel
theorem dL_law_217 : decode cL_law 217 = .ok (.invokestatic 187, 3) := by decide +kernel
theorem dL_law_220 : decode cL_law 220 = .ok (.sipush (-1002), 3) := by decide +kernel
theorem dL_law_223 : decode cL_law 223 = .ok (.if_icmp .eq 5, 3) := by decide +kernel
theorem dL_law_226 : decode cL_law 226 = .ok (.iconst 0, 1) := by decide +kernel
theorem dL_law_227 : decode cL_law 227 = .ok (.ireturn, 1) := by decide +kernel
theorem dL_law_228 : decode cL_law 228 = .ok (.iconst 0, 1) := by decide +kernel
theorem dL_law_229 : decode cL_law 229 = .ok (.istore_n 2, 1) := by decide +kernel
theorem dL_law_230 : decode cL_law 230 = .ok (.iload_n 2, 1) := by decide +kernel
theorem dL_law_231 : decode cL_law 231 = .ok (.iconst 5, 1) := by decide +kernel
theorem dL_law_232 : decode cL_law 232 = .ok (.if_icmp .ge 21, 3) := by decide +kernel
theorem dL_law_235 : decode cL_law 235 = .ok (.aload_n 1, 1) := by decide +kernel
theorem dL_law_236 : decode cL_law 236 = .ok (.iload_n 2, 1) := by decide +kernel
theorem dL_law_237 : decode cL_law 237 = .ok (.iconst 1, 1) := by decide +kernel
theorem dL_law_238 : decode cL_law 238 = .ok (.invokestatic 211, 3) := by decide +kernel
theorem dL_law_241 : decode cL_law 241 = .ok (.iconst 2, 1) := by decide +kernel
theorem dL_law_242 : decode cL_law 242 = .ok (.if_icmp .eq 5, 3) := by decide +kernel
theorem dL_law_245 : decode cL_law 245 = .ok (.iconst 0, 1) := by decide +kernel
theorem dL_law_246 : decode cL_law 246 = .ok (.ireturn, 1) := by decide +kernel
theorem dL_law_247 : decode cL_law 247 = .ok (.iinc 2 1, 3) := by decide +kernel
theorem dL_law_250 : decode cL_law 250 = .ok (.goto (-20), 3) := by decide +kernel
theorem dL_law_253 : decode cL_law 253 = .ok (.iconst 0, 1) := by decide +kernel
theorem dL_law_254 : decode cL_law 254 = .ok (.istore_n 2, 1) := by decide +kernel
theorem dL_law_255 : decode cL_law 255 = .ok (.iload_n 2, 1) := by decide +kernel
theorem dL_law_256 : decode cL_law 256 = .ok (.iconst 5, 1) := by decide +kernel
theorem dL_law_257 : decode cL_law 257 = .ok (.if_icmp .ge 40, 3) := by decide +kernel
theorem dL_law_260 : decode cL_law 260 = .ok (.iconst 0, 1) := by decide +kernel
theorem dL_law_261 : decode cL_law 261 = .ok (.istore_n 3, 1) := by decide +kernel
theorem dL_law_262 : decode cL_law 262 = .ok (.iload_n 3, 1) := by decide +kernel
theorem dL_law_263 : decode cL_law 263 = .ok (.bipush 8, 2) := by decide +kernel
theorem dL_law_265 : decode cL_law 265 = .ok (.if_icmp .ge 26, 3) := by decide +kernel
theorem dL_law_268 : decode cL_law 268 = .ok (.aload_n 1, 1) := by decide +kernel
theorem dL_law_269 : decode cL_law 269 = .ok (.iload_n 2, 1) := by decide +kernel
theorem dL_law_270 : decode cL_law 270 = .ok (.iconst 0, 1) := by decide +kernel
theorem dL_law_271 : decode cL_law 271 = .ok (.iload_n 2, 1) := by decide +kernel
theorem dL_law_272 : decode cL_law 272 = .ok (.iload_n 3, 1) := by decide +kernel
theorem dL_law_273 : decode cL_law 273 = .ok (.iconst 1, 1) := by decide +kernel
theorem dL_law_274 : decode cL_law 274 = .ok (.invokestatic 152, 3) := by decide +kernel
theorem dL_law_277 : decode cL_law 277 = .ok (.iload_n 3, 1) := by decide +kernel
theorem dL_law_278 : decode cL_law 278 = .ok (.iconst 1, 1) := by decide +kernel
theorem dL_law_279 : decode cL_law 279 = .ok (.iadd, 1) := by decide +kernel
theorem dL_law_280 : decode cL_law 280 = .ok (.if_icmp .eq 5, 3) := by decide +kernel
theorem dL_law_283 : decode cL_law 283 = .ok (.iconst 0, 1) := by decide +kernel
theorem dL_law_284 : decode cL_law 284 = .ok (.ireturn, 1) := by decide +kernel
theorem dL_law_285 : decode cL_law 285 = .ok (.iinc 3 1, 3) := by decide +kernel
theorem dL_law_288 : decode cL_law 288 = .ok (.goto (-26), 3) := by decide +kernel
theorem dL_law_291 : decode cL_law 291 = .ok (.iinc 2 1, 3) := by decide +kernel
theorem dL_law_294 : decode cL_law 294 = .ok (.goto (-39), 3) := by decide +kernel
theorem dL_law_297 : decode cL_law 297 = .ok (.aload_n 1, 1) := by decide +kernel
theorem dL_law_298 : decode cL_law 298 = .ok (.iconst 0, 1) := by decide +kernel
theorem dL_law_299 : decode cL_law 299 = .ok (.iconst 1, 1) := by decide +kernel
theorem dL_law_300 : decode cL_law 300 = .ok (.iconst 0, 1) := by decide +kernel
theorem dL_law_301 : decode cL_law 301 = .ok (.iconst 0, 1) := by decide +kernel
theorem dL_law_302 : decode cL_law 302 = .ok (.iconst 1, 1) := by decide +kernel
theorem dL_law_303 : decode cL_law 303 = .ok (.invokestatic 152, 3) := by decide +kernel
theorem dL_law_306 : decode cL_law 306 = .ok (.sipush (-1003), 3) := by decide +kernel
theorem dL_law_309 : decode cL_law 309 = .ok (.if_icmp .ne 60, 3) := by decide +kernel
theorem dL_law_312 : decode cL_law 312 = .ok (.aload_n 1, 1) := by decide +kernel
theorem dL_law_313 : decode cL_law 313 = .ok (.iconst 1, 1) := by decide +kernel
theorem dL_law_314 : decode cL_law 314 = .ok (.bipush 8, 2) := by decide +kernel
theorem dL_law_316 : decode cL_law 316 = .ok (.invokestatic 245, 3) := by decide +kernel
theorem dL_law_319 : decode cL_law 319 = .ok (.ifCond .eq 50, 3) := by decide +kernel
theorem dL_law_322 : decode cL_law 322 = .ok (.aload_n 1, 1) := by decide +kernel
theorem dL_law_323 : decode cL_law 323 = .ok (.iconst 0, 1) := by decide +kernel
theorem dL_law_324 : decode cL_law 324 = .ok (.iconst 0, 1) := by decide +kernel
theorem dL_law_325 : decode cL_law 325 = .ok (.iconst 0, 1) := by decide +kernel
theorem dL_law_326 : decode cL_law 326 = .ok (.bipush 7, 2) := by decide +kernel
theorem dL_law_328 : decode cL_law 328 = .ok (.iconst 1, 1) := by decide +kernel
theorem dL_law_329 : decode cL_law 329 = .ok (.invokestatic 152, 3) := by decide +kernel
theorem dL_law_332 : decode cL_law 332 = .ok (.sipush (-1003), 3) := by decide +kernel
theorem dL_law_335 : decode cL_law 335 = .ok (.if_icmp .ne 34, 3) := by decide +kernel
theorem dL_law_338 : decode cL_law 338 = .ok (.aload_n 1, 1) := by decide +kernel
theorem dL_law_339 : decode cL_law 339 = .ok (.iconst 5, 1) := by decide +kernel
theorem dL_law_340 : decode cL_law 340 = .ok (.bipush 7, 2) := by decide +kernel
theorem dL_law_342 : decode cL_law 342 = .ok (.invokestatic 245, 3) := by decide +kernel
theorem dL_law_345 : decode cL_law 345 = .ok (.ifCond .eq 24, 3) := by decide +kernel
theorem dL_law_348 : decode cL_law 348 = .ok (.aload_n 1, 1) := by decide +kernel
theorem dL_law_349 : decode cL_law 349 = .ok (.iconst 4, 1) := by decide +kernel
theorem dL_law_350 : decode cL_law 350 = .ok (.invokestatic 191, 3) := by decide +kernel
theorem dL_law_353 : decode cL_law 353 = .ok (.bipush 48, 2) := by decide +kernel
theorem dL_law_355 : decode cL_law 355 = .ok (.if_icmp .ne 14, 3) := by decide +kernel
theorem dL_law_358 : decode cL_law 358 = .ok (.aload_n 1, 1) := by decide +kernel
theorem dL_law_359 : decode cL_law 359 = .ok (.bipush 16, 2) := by decide +kernel
theorem dL_law_361 : decode cL_law 361 = .ok (.invokestatic 179, 3) := by decide +kernel
theorem dL_law_364 : decode cL_law 364 = .ok (.bipush 8, 2) := by decide +kernel
theorem dL_law_366 : decode cL_law 366 = .ok (.if_icmp .eq 5, 3) := by decide +kernel
theorem dL_law_369 : decode cL_law 369 = .ok (.iconst 0, 1) := by decide +kernel
theorem dL_law_370 : decode cL_law 370 = .ok (.ireturn, 1) := by decide +kernel
theorem dL_law_371 : decode cL_law 371 = .ok (.aload_n 1, 1) := by decide +kernel
theorem dL_law_372 : decode cL_law 372 = .ok (.iconst 0, 1) := by decide +kernel
theorem dL_law_373 : decode cL_law 373 = .ok (.invokestatic 155, 3) := by decide +kernel
theorem dL_law_376 : decode cL_law 376 = .ok (.iconst 1, 1) := by decide +kernel
theorem dL_law_377 : decode cL_law 377 = .ok (.if_icmp .ne 216, 3) := by decide +kernel
theorem dL_law_380 : decode cL_law 380 = .ok (.aload_n 1, 1) := by decide +kernel
theorem dL_law_381 : decode cL_law 381 = .ok (.iconst 0, 1) := by decide +kernel
theorem dL_law_382 : decode cL_law 382 = .ok (.invokestatic 189, 3) := by decide +kernel
theorem dL_law_385 : decode cL_law 385 = .ok (.bipush 8, 2) := by decide +kernel
theorem dL_law_387 : decode cL_law 387 = .ok (.if_icmp .ne 206, 3) := by decide +kernel
theorem dL_law_390 : decode cL_law 390 = .ok (.aload_n 1, 1) := by decide +kernel
theorem dL_law_391 : decode cL_law 391 = .ok (.bipush 8, 2) := by decide +kernel
theorem dL_law_393 : decode cL_law 393 = .ok (.invokestatic 157, 3) := by decide +kernel
theorem dL_law_396 : decode cL_law 396 = .ok (.iconst 1, 1) := by decide +kernel
theorem dL_law_397 : decode cL_law 397 = .ok (.if_icmp .ne 196, 3) := by decide +kernel
theorem dL_law_400 : decode cL_law 400 = .ok (.aload_n 1, 1) := by decide +kernel
theorem dL_law_401 : decode cL_law 401 = .ok (.bipush 7, 2) := by decide +kernel
theorem dL_law_403 : decode cL_law 403 = .ok (.invokestatic 179, 3) := by decide +kernel
theorem dL_law_406 : decode cL_law 406 = .ok (.sipush 132, 3) := by decide +kernel
theorem dL_law_409 : decode cL_law 409 = .ok (.if_icmp .ne 184, 3) := by decide +kernel
theorem dL_law_412 : decode cL_law 412 = .ok (.aload_n 1, 1) := by decide +kernel
theorem dL_law_413 : decode cL_law 413 = .ok (.iconst 1, 1) := by decide +kernel
theorem dL_law_414 : decode cL_law 414 = .ok (.invokestatic 155, 3) := by decide +kernel
theorem dL_law_417 : decode cL_law 417 = .ok (.iconst 1, 1) := by decide +kernel
theorem dL_law_418 : decode cL_law 418 = .ok (.if_icmp .ne 175, 3) := by decide +kernel
theorem dL_law_421 : decode cL_law 421 = .ok (.aload_n 1, 1) := by decide +kernel
theorem dL_law_422 : decode cL_law 422 = .ok (.iconst 2, 1) := by decide +kernel
theorem dL_law_423 : decode cL_law 423 = .ok (.invokestatic 155, 3) := by decide +kernel
theorem dL_law_426 : decode cL_law 426 = .ok (.iconst 2, 1) := by decide +kernel
theorem dL_law_427 : decode cL_law 427 = .ok (.if_icmp .ne 166, 3) := by decide +kernel
theorem dL_law_430 : decode cL_law 430 = .ok (.aload_n 1, 1) := by decide +kernel
theorem dL_law_431 : decode cL_law 431 = .ok (.iconst 1, 1) := by decide +kernel
theorem dL_law_432 : decode cL_law 432 = .ok (.invokestatic 189, 3) := by decide +kernel
theorem dL_law_435 : decode cL_law 435 = .ok (.bipush 8, 2) := by decide +kernel
theorem dL_law_437 : decode cL_law 437 = .ok (.if_icmp .ne 156, 3) := by decide +kernel
theorem dL_law_440 : decode cL_law 440 = .ok (.aload_n 1, 1) := by decide +kernel
theorem dL_law_441 : decode cL_law 441 = .ok (.iconst 2, 1) := by decide +kernel
theorem dL_law_442 : decode cL_law 442 = .ok (.invokestatic 189, 3) := by decide +kernel
theorem dL_law_445 : decode cL_law 445 = .ok (.bipush 8, 2) := by decide +kernel
theorem dL_law_447 : decode cL_law 447 = .ok (.if_icmp .ne 146, 3) := by decide +kernel
theorem dL_law_450 : decode cL_law 450 = .ok (.aload_n 1, 1) := by decide +kernel
theorem dL_law_451 : decode cL_law 451 = .ok (.bipush 8, 2) := by decide +kernel
theorem dL_law_453 : decode cL_law 453 = .ok (.invokestatic 157, 3) := by decide +kernel
theorem dL_law_456 : decode cL_law 456 = .ok (.iconst 2, 1) := by decide +kernel
theorem dL_law_457 : decode cL_law 457 = .ok (.if_icmp .ne 136, 3) := by decide +kernel
theorem dL_law_460 : decode cL_law 460 = .ok (.aload_n 1, 1) := by decide +kernel
theorem dL_law_461 : decode cL_law 461 = .ok (.bipush 7, 2) := by decide +kernel
theorem dL_law_463 : decode cL_law 463 = .ok (.invokestatic 179, 3) := by decide +kernel
theorem dL_law_466 : decode cL_law 466 = .ok (.sipush 196, 3) := by decide +kernel
theorem dL_law_469 : decode cL_law 469 = .ok (.if_icmp .ne 124, 3) := by decide +kernel
theorem dL_law_472 : decode cL_law 472 = .ok (.aload_n 1, 1) := by decide +kernel
theorem dL_law_473 : decode cL_law 473 = .ok (.bipush 10, 2) := by decide +kernel
theorem dL_law_475 : decode cL_law 475 = .ok (.invokestatic 179, 3) := by decide +kernel
theorem dL_law_478 : decode cL_law 478 = .ok (.sipush 240, 3) := by decide +kernel
theorem dL_law_481 : decode cL_law 481 = .ok (.if_icmp .ne 112, 3) := by decide +kernel
theorem dL_law_484 : decode cL_law 484 = .ok (.aload_n 1, 1) := by decide +kernel
theorem dL_law_485 : decode cL_law 485 = .ok (.bipush 8, 2) := by decide +kernel
theorem dL_law_487 : decode cL_law 487 = .ok (.invokestatic 179, 3) := by decide +kernel
theorem dL_law_490 : decode cL_law 490 = .ok (.sipush 144, 3) := by decide +kernel
theorem dL_law_493 : decode cL_law 493 = .ok (.if_icmp .ne 100, 3) := by decide +kernel
theorem dL_law_496 : decode cL_law 496 = .ok (.aload_n 1, 1) := by decide +kernel
theorem dL_law_497 : decode cL_law 497 = .ok (.bipush 15, 2) := by decide +kernel
theorem dL_law_499 : decode cL_law 499 = .ok (.invokestatic 179, 3) := by decide +kernel
theorem dL_law_502 : decode cL_law 502 = .ok (.bipush 24, 2) := by decide +kernel
theorem dL_law_504 : decode cL_law 504 = .ok (.if_icmp .ne 89, 3) := by decide +kernel
theorem dL_law_507 : decode cL_law 507 = .ok (.aload_n 1, 1) := by decide +kernel
theorem dL_law_508 : decode cL_law 508 = .ok (.iconst 0, 1) := by decide +kernel
theorem dL_law_509 : decode cL_law 509 = .ok (.iconst 2, 1) := by decide +kernel
theorem dL_law_510 : decode cL_law 510 = .ok (.bipush 7, 2) := by decide +kernel
theorem dL_law_512 : decode cL_law 512 = .ok (.invokestatic 197, 3) := by decide +kernel
theorem dL_law_515 : decode cL_law 515 = .ok (.ifCond .ne 78, 3) := by decide +kernel
theorem dL_law_518 : decode cL_law 518 = .ok (.aload_n 1, 1) := by decide +kernel
theorem dL_law_519 : decode cL_law 519 = .ok (.invokestatic 258, 3) := by decide +kernel
theorem dL_law_522 : decode cL_law 522 = .ok (.bipush 7, 2) := by decide +kernel
theorem dL_law_524 : decode cL_law 524 = .ok (.if_icmp .ne 69, 3) := by decide +kernel
theorem dL_law_527 : decode cL_law 527 = .ok (.aload_n 1, 1) := by decide +kernel
theorem dL_law_528 : decode cL_law 528 = .ok (.bipush 7, 2) := by decide +kernel
theorem dL_law_530 : decode cL_law 530 = .ok (.invokestatic 179, 3) := by decide +kernel
theorem dL_law_533 : decode cL_law 533 = .ok (.sipush 132, 3) := by decide +kernel
theorem dL_law_536 : decode cL_law 536 = .ok (.if_icmp .ne 57, 3) := by decide +kernel
theorem dL_law_539 : decode cL_law 539 = .ok (.aload_n 1, 1) := by decide +kernel
theorem dL_law_540 : decode cL_law 540 = .ok (.iconst 2, 1) := by decide +kernel
theorem dL_law_541 : decode cL_law 541 = .ok (.iconst 3, 1) := by decide +kernel
theorem dL_law_542 : decode cL_law 542 = .ok (.invokestatic 181, 3) := by decide +kernel
theorem dL_law_545 : decode cL_law 545 = .ok (.ifCond .ne 48, 3) := by decide +kernel
theorem dL_law_548 : decode cL_law 548 = .ok (.aload_n 1, 1) := by decide +kernel
theorem dL_law_549 : decode cL_law 549 = .ok (.invokestatic 258, 3) := by decide +kernel
theorem dL_law_552 : decode cL_law 552 = .ok (.bipush 6, 2) := by decide +kernel
theorem dL_law_554 : decode cL_law 554 = .ok (.if_icmp .ne 39, 3) := by decide +kernel
theorem dL_law_557 : decode cL_law 557 = .ok (.aload_n 1, 1) := by decide +kernel
theorem dL_law_558 : decode cL_law 558 = .ok (.iconst 2, 1) := by decide +kernel
theorem dL_law_559 : decode cL_law 559 = .ok (.iconst 0, 1) := by decide +kernel
theorem dL_law_560 : decode cL_law 560 = .ok (.invokestatic 181, 3) := by decide +kernel
theorem dL_law_563 : decode cL_law 563 = .ok (.ifCond .ne 30, 3) := by decide +kernel
theorem dL_law_566 : decode cL_law 566 = .ok (.aload_n 1, 1) := by decide +kernel
theorem dL_law_567 : decode cL_law 567 = .ok (.invokestatic 258, 3) := by decide +kernel
theorem dL_law_570 : decode cL_law 570 = .ok (.iconst 5, 1) := by decide +kernel
theorem dL_law_571 : decode cL_law 571 = .ok (.if_icmp .ne 22, 3) := by decide +kernel
theorem dL_law_574 : decode cL_law 574 = .ok (.aload_n 1, 1) := by decide +kernel
theorem dL_law_575 : decode cL_law 575 = .ok (.invokestatic 258, 3) := by decide +kernel
theorem dL_law_578 : decode cL_law 578 = .ok (.iconst 4, 1) := by decide +kernel
theorem dL_law_579 : decode cL_law 579 = .ok (.if_icmp .ne 14, 3) := by decide +kernel
theorem dL_law_582 : decode cL_law 582 = .ok (.aload_n 1, 1) := by decide +kernel
theorem dL_law_583 : decode cL_law 583 = .ok (.bipush 7, 2) := by decide +kernel
theorem dL_law_585 : decode cL_law 585 = .ok (.invokestatic 179, 3) := by decide +kernel
theorem dL_law_588 : decode cL_law 588 = .ok (.bipush 100, 2) := by decide +kernel
theorem dL_law_590 : decode cL_law 590 = .ok (.if_icmp .eq 5, 3) := by decide +kernel
theorem dL_law_593 : decode cL_law 593 = .ok (.iconst 0, 1) := by decide +kernel
theorem dL_law_594 : decode cL_law 594 = .ok (.ireturn, 1) := by decide +kernel
theorem dL_law_595 : decode cL_law 595 = .ok (.aload_n 1, 1) := by decide +kernel
theorem dL_law_596 : decode cL_law 596 = .ok (.invokestatic 260, 3) := by decide +kernel
theorem dL_law_599 : decode cL_law 599 = .ok (.ifCond .ne 39, 3) := by decide +kernel
theorem dL_law_602 : decode cL_law 602 = .ok (.aload_n 1, 1) := by decide +kernel
theorem dL_law_603 : decode cL_law 603 = .ok (.iconst 1, 1) := by decide +kernel
theorem dL_law_604 : decode cL_law 604 = .ok (.invokestatic 179, 3) := by decide +kernel
theorem dL_law_607 : decode cL_law 607 = .ok (.ifCond .ne 31, 3) := by decide +kernel
theorem dL_law_610 : decode cL_law 610 = .ok (.aload_n 1, 1) := by decide +kernel
theorem dL_law_611 : decode cL_law 611 = .ok (.iconst 0, 1) := by decide +kernel
theorem dL_law_612 : decode cL_law 612 = .ok (.iconst 1, 1) := by decide +kernel
theorem dL_law_613 : decode cL_law 613 = .ok (.invokestatic 195, 3) := by decide +kernel
theorem dL_law_616 : decode cL_law 616 = .ok (.iconst 2, 1) := by decide +kernel
theorem dL_law_617 : decode cL_law 617 = .ok (.if_icmp .ne 21, 3) := by decide +kernel
theorem dL_law_620 : decode cL_law 620 = .ok (.aload_n 1, 1) := by decide +kernel
theorem dL_law_621 : decode cL_law 621 = .ok (.iconst 0, 1) := by decide +kernel
theorem dL_law_622 : decode cL_law 622 = .ok (.invokestatic 179, 3) := by decide +kernel
theorem dL_law_625 : decode cL_law 625 = .ok (.ifCond .ne 13, 3) := by decide +kernel
theorem dL_law_628 : decode cL_law 628 = .ok (.aload_n 1, 1) := by decide +kernel
theorem dL_law_629 : decode cL_law 629 = .ok (.invokestatic 258, 3) := by decide +kernel
theorem dL_law_632 : decode cL_law 632 = .ok (.sipush (-1001), 3) := by decide +kernel
theorem dL_law_635 : decode cL_law 635 = .ok (.if_icmp .eq 5, 3) := by decide +kernel
theorem dL_law_638 : decode cL_law 638 = .ok (.iconst 0, 1) := by decide +kernel
theorem dL_law_639 : decode cL_law 639 = .ok (.ireturn, 1) := by decide +kernel
theorem dL_law_640 : decode cL_law 640 = .ok (.new 8, 3) := by decide +kernel
theorem dL_law_643 : decode cL_law 643 = .ok (.dup, 1) := by decide +kernel
theorem dL_law_644 : decode cL_law 644 = .ok (.invokespecial 257, 3) := by decide +kernel
theorem dL_law_647 : decode cL_law 647 = .ok (.astore_n 2, 1) := by decide +kernel
theorem dL_law_648 : decode cL_law 648 = .ok (.aload_n 2, 1) := by decide +kernel
theorem dL_law_649 : decode cL_law 649 = .ok (.aload_n 0, 1) := by decide +kernel
theorem dL_law_650 : decode cL_law 650 = .ok (.invokestatic 266, 3) := by decide +kernel
theorem dL_law_653 : decode cL_law 653 = .ok (.ifCond .ne 5, 3) := by decide +kernel
theorem dL_law_656 : decode cL_law 656 = .ok (.iconst 0, 1) := by decide +kernel
theorem dL_law_657 : decode cL_law 657 = .ok (.ireturn, 1) := by decide +kernel
theorem dL_law_658 : decode cL_law 658 = .ok (.aload_n 2, 1) := by decide +kernel
theorem dL_law_659 : decode cL_law 659 = .ok (.invokestatic 241, 3) := by decide +kernel
theorem dL_law_662 : decode cL_law 662 = .ok (.lstore_n 3, 1) := by decide +kernel
theorem dL_law_663 : decode cL_law 663 = .ok (.aload_n 2, 1) := by decide +kernel
theorem dL_law_664 : decode cL_law 664 = .ok (.invokestatic 241, 3) := by decide +kernel
theorem dL_law_667 : decode cL_law 667 = .ok (.lload_n 3, 1) := by decide +kernel
theorem dL_law_668 : decode cL_law 668 = .ok (.lcmp, 1) := by decide +kernel
theorem dL_law_669 : decode cL_law 669 = .ok (.ifCond .ne 10, 3) := by decide +kernel
theorem dL_law_672 : decode cL_law 672 = .ok (.aload_n 2, 1) := by decide +kernel
theorem dL_law_673 : decode cL_law 673 = .ok (.invokestatic 270, 3) := by decide +kernel
theorem dL_law_676 : decode cL_law 676 = .ok (.ifCond .ne 5, 3) := by decide +kernel
theorem dL_law_679 : decode cL_law 679 = .ok (.iconst 0, 1) := by decide +kernel
theorem dL_law_680 : decode cL_law 680 = .ok (.ireturn, 1) := by decide +kernel
theorem dL_law_681 : decode cL_law 681 = .ok (.aload_n 2, 1) := by decide +kernel
theorem dL_law_682 : decode cL_law 682 = .ok (.invokevirtual 263, 3) := by decide +kernel
theorem dL_law_685 : decode cL_law 685 = .ok (.istore 5, 2) := by decide +kernel
theorem dL_law_687 : decode cL_law 687 = .ok (.iload 5, 2) := by decide +kernel
theorem dL_law_689 : decode cL_law 689 = .ok (.aload_n 2, 1) := by decide +kernel
theorem dL_law_690 : decode cL_law 690 = .ok (.iconst 1, 1) := by decide +kernel
theorem dL_law_691 : decode cL_law 691 = .ok (.invokestatic 179, 3) := by decide +kernel
theorem dL_law_694 : decode cL_law 694 = .ok (.if_icmp .ne 12, 3) := by decide +kernel
theorem dL_law_697 : decode cL_law 697 = .ok (.aload_n 2, 1) := by decide +kernel
theorem dL_law_698 : decode cL_law 698 = .ok (.invokestatic 241, 3) := by decide +kernel
theorem dL_law_701 : decode cL_law 701 = .ok (.lload_n 3, 1) := by decide +kernel
theorem dL_law_702 : decode cL_law 702 = .ok (.lcmp, 1) := by decide +kernel
theorem dL_law_703 : decode cL_law 703 = .ok (.ifCond .eq 5, 3) := by decide +kernel
theorem dL_law_706 : decode cL_law 706 = .ok (.iconst 0, 1) := by decide +kernel
theorem dL_law_707 : decode cL_law 707 = .ok (.ireturn, 1) := by decide +kernel
theorem dL_law_708 : decode cL_law 708 = .ok (.bipush 11, 2) := by decide +kernel
theorem dL_law_710 : decode cL_law 710 = .ok (.newarray .long, 2) := by decide +kernel
theorem dL_law_712 : decode cL_law 712 = .ok (.astore 6, 2) := by decide +kernel
theorem dL_law_714 : decode cL_law 714 = .ok (.iconst 0, 1) := by decide +kernel
theorem dL_law_715 : decode cL_law 715 = .ok (.istore 7, 2) := by decide +kernel
theorem dL_law_717 : decode cL_law 717 = .ok (.iconst 0, 1) := by decide +kernel
theorem dL_law_718 : decode cL_law 718 = .ok (.istore 8, 2) := by decide +kernel
theorem dL_law_720 : decode cL_law 720 = .ok (.iload 8, 2) := by decide +kernel
theorem dL_law_722 : decode cL_law 722 = .ok (.bipush 10, 2) := by decide +kernel
theorem dL_law_724 : decode cL_law 724 = .ok (.if_icmp .ge 63, 3) := by decide +kernel
theorem dL_law_727 : decode cL_law 727 = .ok (.aload_n 2, 1) := by decide +kernel
theorem dL_law_728 : decode cL_law 728 = .ok (.invokestatic 241, 3) := by decide +kernel
theorem dL_law_731 : decode cL_law 731 = .ok (.lstore 9, 2) := by decide +kernel
theorem dL_law_733 : decode cL_law 733 = .ok (.aload_n 2, 1) := by decide +kernel
theorem dL_law_734 : decode cL_law 734 = .ok (.aload_n 0, 1) := by decide +kernel
theorem dL_law_735 : decode cL_law 735 = .ok (.bipush 20, 2) := by decide +kernel
theorem dL_law_737 : decode cL_law 737 = .ok (.iload 8, 2) := by decide +kernel
theorem dL_law_739 : decode cL_law 739 = .ok (.iadd, 1) := by decide +kernel
theorem dL_law_740 : decode cL_law 740 = .ok (.invokestatic 143, 3) := by decide +kernel
theorem dL_law_743 : decode cL_law 743 = .ok (.iload 8, 2) := by decide +kernel
theorem dL_law_745 : decode cL_law 745 = .ok (.sipush 977, 3) := by decide +kernel
theorem dL_law_748 : decode cL_law 748 = .ok (.imul, 1) := by decide +kernel
theorem dL_law_749 : decode cL_law 749 = .ok (.ixor, 1) := by decide +kernel
theorem dL_law_750 : decode cL_law 750 = .ok (.invokestatic 274, 3) := by decide +kernel
theorem dL_law_753 : decode cL_law 753 = .ok (.ifCond .eq 16, 3) := by decide +kernel
theorem dL_law_756 : decode cL_law 756 = .ok (.aload 6, 2) := by decide +kernel
theorem dL_law_758 : decode cL_law 758 = .ok (.iload 7, 2) := by decide +kernel
theorem dL_law_760 : decode cL_law 760 = .ok (.iinc 7 1, 3) := by decide +kernel
theorem dL_law_763 : decode cL_law 763 = .ok (.lload 9, 2) := by decide +kernel
theorem dL_law_765 : decode cL_law 765 = .ok (.lastore, 1) := by decide +kernel
theorem dL_law_766 : decode cL_law 766 = .ok (.goto 15, 3) := by decide +kernel
theorem dL_law_769 : decode cL_law 769 = .ok (.aload_n 2, 1) := by decide +kernel
theorem dL_law_770 : decode cL_law 770 = .ok (.invokestatic 241, 3) := by decide +kernel
theorem dL_law_773 : decode cL_law 773 = .ok (.lload 9, 2) := by decide +kernel
theorem dL_law_775 : decode cL_law 775 = .ok (.lcmp, 1) := by decide +kernel
theorem dL_law_776 : decode cL_law 776 = .ok (.ifCond .eq 5, 3) := by decide +kernel
theorem dL_law_779 : decode cL_law 779 = .ok (.iconst 0, 1) := by decide +kernel
theorem dL_law_780 : decode cL_law 780 = .ok (.ireturn, 1) := by decide +kernel
theorem dL_law_781 : decode cL_law 781 = .ok (.iinc 8 1, 3) := by decide +kernel
theorem dL_law_784 : decode cL_law 784 = .ok (.goto (-64), 3) := by decide +kernel
theorem dL_law_787 : decode cL_law 787 = .ok (.bipush 8, 2) := by decide +kernel
theorem dL_law_789 : decode cL_law 789 = .ok (.iload 7, 2) := by decide +kernel
theorem dL_law_791 : decode cL_law 791 = .ok (.invokestatic 278, 3) := by decide +kernel
theorem dL_law_794 : decode cL_law 794 = .ok (.istore 8, 2) := by decide +kernel
theorem dL_law_796 : decode cL_law 796 = .ok (.iconst 1, 1) := by decide +kernel
theorem dL_law_797 : decode cL_law 797 = .ok (.istore 9, 2) := by decide +kernel
theorem dL_law_799 : decode cL_law 799 = .ok (.iload 9, 2) := by decide +kernel
theorem dL_law_801 : decode cL_law 801 = .ok (.iload 8, 2) := by decide +kernel
theorem dL_law_803 : decode cL_law 803 = .ok (.if_icmp .gt 53, 3) := by decide +kernel
theorem dL_law_806 : decode cL_law 806 = .ok (.aload_n 2, 1) := by decide +kernel
theorem dL_law_807 : decode cL_law 807 = .ok (.invokestatic 258, 3) := by decide +kernel
theorem dL_law_810 : decode cL_law 810 = .ok (.istore 10, 2) := by decide +kernel
theorem dL_law_812 : decode cL_law 812 = .ok (.iload 10, 2) := by decide +kernel
theorem dL_law_814 : decode cL_law 814 = .ok (.iload 8, 2) := by decide +kernel
theorem dL_law_816 : decode cL_law 816 = .ok (.iload 9, 2) := by decide +kernel
theorem dL_law_818 : decode cL_law 818 = .ok (.isub, 1) := by decide +kernel
theorem dL_law_819 : decode cL_law 819 = .ok (.if_icmp .lt 29, 3) := by decide +kernel
theorem dL_law_822 : decode cL_law 822 = .ok (.iload 10, 2) := by decide +kernel
theorem dL_law_824 : decode cL_law 824 = .ok (.bipush 8, 2) := by decide +kernel
theorem dL_law_826 : decode cL_law 826 = .ok (.iload 9, 2) := by decide +kernel
theorem dL_law_828 : decode cL_law 828 = .ok (.isub, 1) := by decide +kernel
theorem dL_law_829 : decode cL_law 829 = .ok (.if_icmp .gt 19, 3) := by decide +kernel
theorem dL_law_832 : decode cL_law 832 = .ok (.aload_n 2, 1) := by decide +kernel
theorem dL_law_833 : decode cL_law 833 = .ok (.invokestatic 241, 3) := by decide +kernel
theorem dL_law_836 : decode cL_law 836 = .ok (.aload 6, 2) := by decide +kernel
theorem dL_law_838 : decode cL_law 838 = .ok (.iload 7, 2) := by decide +kernel
theorem dL_law_840 : decode cL_law 840 = .ok (.iload 9, 2) := by decide +kernel
theorem dL_law_842 : decode cL_law 842 = .ok (.isub, 1) := by decide +kernel
theorem dL_law_843 : decode cL_law 843 = .ok (.laload, 1) := by decide +kernel
theorem dL_law_844 : decode cL_law 844 = .ok (.lcmp, 1) := by decide +kernel
theorem dL_law_845 : decode cL_law 845 = .ok (.ifCond .eq 5, 3) := by decide +kernel
theorem dL_law_848 : decode cL_law 848 = .ok (.iconst 0, 1) := by decide +kernel
theorem dL_law_849 : decode cL_law 849 = .ok (.ireturn, 1) := by decide +kernel
theorem dL_law_850 : decode cL_law 850 = .ok (.iinc 9 1, 3) := by decide +kernel
theorem dL_law_853 : decode cL_law 853 = .ok (.goto (-54), 3) := by decide +kernel
theorem dL_law_856 : decode cL_law 856 = .ok (.aload_n 2, 1) := by decide +kernel
theorem dL_law_857 : decode cL_law 857 = .ok (.invokestatic 260, 3) := by decide +kernel
theorem dL_law_860 : decode cL_law 860 = .ok (.iload 5, 2) := by decide +kernel
theorem dL_law_862 : decode cL_law 862 = .ok (.if_icmp .ne 44, 3) := by decide +kernel
theorem dL_law_865 : decode cL_law 865 = .ok (.aload_n 2, 1) := by decide +kernel
theorem dL_law_866 : decode cL_law 866 = .ok (.invokestatic 258, 3) := by decide +kernel
theorem dL_law_869 : decode cL_law 869 = .ok (.sipush (-1001), 3) := by decide +kernel
theorem dL_law_872 : decode cL_law 872 = .ok (.if_icmp .ne 34, 3) := by decide +kernel
theorem dL_law_875 : decode cL_law 875 = .ok (.aload_n 2, 1) := by decide +kernel
theorem dL_law_876 : decode cL_law 876 = .ok (.invokestatic 241, 3) := by decide +kernel
theorem dL_law_879 : decode cL_law 879 = .ok (.lload_n 3, 1) := by decide +kernel
theorem dL_law_880 : decode cL_law 880 = .ok (.lcmp, 1) := by decide +kernel
theorem dL_law_881 : decode cL_law 881 = .ok (.ifCond .ne 25, 3) := by decide +kernel
theorem dL_law_884 : decode cL_law 884 = .ok (.aload_n 2, 1) := by decide +kernel
theorem dL_law_885 : decode cL_law 885 = .ok (.invokestatic 260, 3) := by decide +kernel
theorem dL_law_888 : decode cL_law 888 = .ok (.iload 5, 2) := by decide +kernel
theorem dL_law_890 : decode cL_law 890 = .ok (.if_icmp .ne 16, 3) := by decide +kernel
theorem dL_law_893 : decode cL_law 893 = .ok (.aload_n 2, 1) := by decide +kernel
theorem dL_law_894 : decode cL_law 894 = .ok (.invokestatic 241, 3) := by decide +kernel
theorem dL_law_897 : decode cL_law 897 = .ok (.lload_n 3, 1) := by decide +kernel
theorem dL_law_898 : decode cL_law 898 = .ok (.lcmp, 1) := by decide +kernel
theorem dL_law_899 : decode cL_law 899 = .ok (.ifCond .ne 7, 3) := by decide +kernel
theorem dL_law_902 : decode cL_law 902 = .ok (.iconst 1, 1) := by decide +kernel
theorem dL_law_903 : decode cL_law 903 = .ok (.goto 4, 3) := by decide +kernel
theorem dL_law_906 : decode cL_law 906 = .ok (.iconst 0, 1) := by decide +kernel
theorem dL_law_907 : decode cL_law 907 = .ok (.ireturn, 1) := by decide +kernel
