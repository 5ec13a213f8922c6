def I_Law_16 : List IT := [(16, .iconst 0, 1, 0, 0, []), (17, .istore_n 3, 1, 0, 0, [])]
theorem ok_Law_16 : blkOK code pt_Law 18 I_Law_16 = true := by decide +kernel
def I_Law_18 : List IT := [(18, .iload_n 3, 1, 0, 0, []), (19, .aload_n 0, 1, 0, 0, [])]
theorem ok_Law_18 : blkOK code pt_Law 20 I_Law_18 = true := by decide +kernel
theorem dl_20 : decode code 20 = .ok (.arraylength, 1) := by decide +kernel
def I_Law_21 : List IT := [(21, .iconst 3, 1, 3, 0, []), (22, .isub, 1, 0, 0, []), (23, .if_icmp .gt 382, 3, 0, 405, []), (26, .aload_n 0, 1, 0, 0, []), (27, .iload_n 3, 1, 0, 0, [])]
theorem ok_Law_21 : blkOK code pt_Law 28 I_Law_21 = true := by decide +kernel
theorem dl_28 : decode code 28 = .ok (.iaload, 1) := by decide +kernel
def I_Law_29 : List IT := [(29, .bipush 15, 2, 15, 0, []), (31, .iand, 1, 0, 0, []), (32, .tableswitch 367 0 12 #[68, 101, 134, 157, 180, 203, 226, 259, 272, 295, 318, 341, 354], 68, 0, 399, [(0, 100), (1, 133), (2, 166), (3, 189), (4, 212), (5, 235), (6, 258), (7, 291), (8, 304), (9, 327), (10, 350), (11, 373), (12, 386)])]
theorem ok_Law_29 : blkOK code pt_Law 100 I_Law_29 = true := by decide +kernel
def I_Law_100 : List IT := [(100, .aload_n 1, 1, 0, 0, []), (101, .aload_n 0, 1, 0, 0, []), (102, .iload_n 3, 1, 0, 0, []), (103, .iconst 1, 1, 1, 0, []), (104, .iadd, 1, 0, 0, [])]
theorem ok_Law_100 : blkOK code pt_Law 105 I_Law_100 = true := by decide +kernel
theorem dl_105 : decode code 105 = .ok (.iaload, 1) := by decide +kernel
def I_Law_106 : List IT := [(106, .aload_n 0, 1, 0, 0, []), (107, .iload_n 3, 1, 0, 0, []), (108, .iconst 2, 1, 2, 0, []), (109, .iadd, 1, 0, 0, [])]
theorem ok_Law_106 : blkOK code pt_Law 110 I_Law_106 = true := by decide +kernel
theorem dl_110 : decode code 110 = .ok (.iaload, 1) := by decide +kernel
def I_Law_111 : List IT := [(111, .invokevirtual 13, 3, 0, 0, []), (114, .aload_n 2, 1, 0, 0, []), (115, .aload_n 0, 1, 0, 0, []), (116, .iload_n 3, 1, 0, 0, []), (117, .iconst 1, 1, 1, 0, []), (118, .iadd, 1, 0, 0, [])]
theorem ok_Law_111 : blkOK code pt_Law 119 I_Law_111 = true := by decide +kernel
theorem dl_119 : decode code 119 = .ok (.iaload, 1) := by decide +kernel
def I_Law_120 : List IT := [(120, .aload_n 0, 1, 0, 0, []), (121, .iload_n 3, 1, 0, 0, []), (122, .iconst 2, 1, 2, 0, []), (123, .iadd, 1, 0, 0, [])]
theorem ok_Law_120 : blkOK code pt_Law 124 I_Law_120 = true := by decide +kernel
theorem dl_124 : decode code 124 = .ok (.iaload, 1) := by decide +kernel
def I_Law_125 : List IT := [(125, .invokevirtual 17, 3, 0, 0, []), (128, .if_icmp .eq 271, 3, 0, 399, []), (131, .iconst 0, 1, 0, 0, []), (132, .ireturn, 1, 0, 0, [])]
theorem ok_Law_125 : blkOK code pt_Law 133 I_Law_125 = true := by decide +kernel
def I_Law_133 : List IT := [(133, .aload_n 1, 1, 0, 0, []), (134, .aload_n 0, 1, 0, 0, []), (135, .iload_n 3, 1, 0, 0, []), (136, .iconst 1, 1, 1, 0, []), (137, .iadd, 1, 0, 0, [])]
theorem ok_Law_133 : blkOK code pt_Law 138 I_Law_133 = true := by decide +kernel
theorem dl_138 : decode code 138 = .ok (.iaload, 1) := by decide +kernel
def I_Law_139 : List IT := [(139, .aload_n 0, 1, 0, 0, []), (140, .iload_n 3, 1, 0, 0, []), (141, .iconst 2, 1, 2, 0, []), (142, .iadd, 1, 0, 0, [])]
theorem ok_Law_139 : blkOK code pt_Law 143 I_Law_139 = true := by decide +kernel
theorem dl_143 : decode code 143 = .ok (.iaload, 1) := by decide +kernel
def I_Law_144 : List IT := [(144, .invokevirtual 18, 3, 0, 0, []), (147, .aload_n 2, 1, 0, 0, []), (148, .aload_n 0, 1, 0, 0, []), (149, .iload_n 3, 1, 0, 0, []), (150, .iconst 1, 1, 1, 0, []), (151, .iadd, 1, 0, 0, [])]
theorem ok_Law_144 : blkOK code pt_Law 152 I_Law_144 = true := by decide +kernel
theorem dl_152 : decode code 152 = .ok (.iaload, 1) := by decide +kernel
def I_Law_153 : List IT := [(153, .aload_n 0, 1, 0, 0, []), (154, .iload_n 3, 1, 0, 0, []), (155, .iconst 2, 1, 2, 0, []), (156, .iadd, 1, 0, 0, [])]
theorem ok_Law_153 : blkOK code pt_Law 157 I_Law_153 = true := by decide +kernel
theorem dl_157 : decode code 157 = .ok (.iaload, 1) := by decide +kernel
def I_Law_158 : List IT := [(158, .invokevirtual 21, 3, 0, 0, []), (161, .if_icmp .eq 238, 3, 0, 399, []), (164, .iconst 0, 1, 0, 0, []), (165, .ireturn, 1, 0, 0, [])]
theorem ok_Law_158 : blkOK code pt_Law 166 I_Law_158 = true := by decide +kernel
def I_Law_166 : List IT := [(166, .aload_n 1, 1, 0, 0, []), (167, .aload_n 0, 1, 0, 0, []), (168, .iload_n 3, 1, 0, 0, []), (169, .iconst 1, 1, 1, 0, []), (170, .iadd, 1, 0, 0, [])]
theorem ok_Law_166 : blkOK code pt_Law 171 I_Law_166 = true := by decide +kernel
theorem dl_171 : decode code 171 = .ok (.iaload, 1) := by decide +kernel
def I_Law_172 : List IT := [(172, .invokevirtual 22, 3, 0, 0, []), (175, .aload_n 2, 1, 0, 0, []), (176, .aload_n 0, 1, 0, 0, []), (177, .iload_n 3, 1, 0, 0, []), (178, .iconst 1, 1, 1, 0, []), (179, .iadd, 1, 0, 0, [])]
theorem ok_Law_172 : blkOK code pt_Law 180 I_Law_172 = true := by decide +kernel
theorem dl_180 : decode code 180 = .ok (.iaload, 1) := by decide +kernel
def I_Law_181 : List IT := [(181, .invokevirtual 26, 3, 0, 0, []), (184, .if_icmp .eq 215, 3, 0, 399, []), (187, .iconst 0, 1, 0, 0, []), (188, .ireturn, 1, 0, 0, [])]
theorem ok_Law_181 : blkOK code pt_Law 189 I_Law_181 = true := by decide +kernel
def I_Law_189 : List IT := [(189, .aload_n 1, 1, 0, 0, []), (190, .aload_n 0, 1, 0, 0, []), (191, .iload_n 3, 1, 0, 0, []), (192, .iconst 1, 1, 1, 0, []), (193, .iadd, 1, 0, 0, [])]
theorem ok_Law_189 : blkOK code pt_Law 194 I_Law_189 = true := by decide +kernel
theorem dl_194 : decode code 194 = .ok (.iaload, 1) := by decide +kernel
def I_Law_195 : List IT := [(195, .invokevirtual 27, 3, 0, 0, []), (198, .aload_n 2, 1, 0, 0, []), (199, .aload_n 0, 1, 0, 0, []), (200, .iload_n 3, 1, 0, 0, []), (201, .iconst 1, 1, 1, 0, []), (202, .iadd, 1, 0, 0, [])]
theorem ok_Law_195 : blkOK code pt_Law 203 I_Law_195 = true := by decide +kernel
theorem dl_203 : decode code 203 = .ok (.iaload, 1) := by decide +kernel
def I_Law_204 : List IT := [(204, .invokevirtual 31, 3, 0, 0, []), (207, .if_icmp .eq 192, 3, 0, 399, []), (210, .iconst 0, 1, 0, 0, []), (211, .ireturn, 1, 0, 0, [])]
theorem ok_Law_204 : blkOK code pt_Law 212 I_Law_204 = true := by decide +kernel
def I_Law_212 : List IT := [(212, .aload_n 1, 1, 0, 0, []), (213, .aload_n 0, 1, 0, 0, []), (214, .iload_n 3, 1, 0, 0, []), (215, .iconst 1, 1, 1, 0, []), (216, .iadd, 1, 0, 0, [])]
theorem ok_Law_212 : blkOK code pt_Law 217 I_Law_212 = true := by decide +kernel
theorem dl_217 : decode code 217 = .ok (.iaload, 1) := by decide +kernel
def I_Law_218 : List IT := [(218, .invokevirtual 32, 3, 0, 0, []), (221, .aload_n 2, 1, 0, 0, []), (222, .aload_n 0, 1, 0, 0, []), (223, .iload_n 3, 1, 0, 0, []), (224, .iconst 1, 1, 1, 0, []), (225, .iadd, 1, 0, 0, [])]
theorem ok_Law_218 : blkOK code pt_Law 226 I_Law_218 = true := by decide +kernel
theorem dl_226 : decode code 226 = .ok (.iaload, 1) := by decide +kernel
def I_Law_227 : List IT := [(227, .invokevirtual 35, 3, 0, 0, []), (230, .if_icmp .eq 169, 3, 0, 399, []), (233, .iconst 0, 1, 0, 0, []), (234, .ireturn, 1, 0, 0, [])]
theorem ok_Law_227 : blkOK code pt_Law 235 I_Law_227 = true := by decide +kernel
def I_Law_235 : List IT := [(235, .aload_n 1, 1, 0, 0, []), (236, .aload_n 0, 1, 0, 0, []), (237, .iload_n 3, 1, 0, 0, []), (238, .iconst 1, 1, 1, 0, []), (239, .iadd, 1, 0, 0, [])]
theorem ok_Law_235 : blkOK code pt_Law 240 I_Law_235 = true := by decide +kernel
theorem dl_240 : decode code 240 = .ok (.iaload, 1) := by decide +kernel
def I_Law_241 : List IT := [(241, .invokevirtual 36, 3, 0, 0, []), (244, .aload_n 2, 1, 0, 0, []), (245, .aload_n 0, 1, 0, 0, []), (246, .iload_n 3, 1, 0, 0, []), (247, .iconst 1, 1, 1, 0, []), (248, .iadd, 1, 0, 0, [])]
theorem ok_Law_241 : blkOK code pt_Law 249 I_Law_241 = true := by decide +kernel
theorem dl_249 : decode code 249 = .ok (.iaload, 1) := by decide +kernel
def I_Law_250 : List IT := [(250, .invokevirtual 39, 3, 0, 0, []), (253, .if_icmp .eq 146, 3, 0, 399, []), (256, .iconst 0, 1, 0, 0, []), (257, .ireturn, 1, 0, 0, [])]
theorem ok_Law_250 : blkOK code pt_Law 258 I_Law_250 = true := by decide +kernel
def I_Law_258 : List IT := [(258, .aload_n 1, 1, 0, 0, []), (259, .aload_n 0, 1, 0, 0, []), (260, .iload_n 3, 1, 0, 0, []), (261, .iconst 1, 1, 1, 0, []), (262, .iadd, 1, 0, 0, [])]
theorem ok_Law_258 : blkOK code pt_Law 263 I_Law_258 = true := by decide +kernel
theorem dl_263 : decode code 263 = .ok (.iaload, 1) := by decide +kernel
def I_Law_264 : List IT := [(264, .aload_n 0, 1, 0, 0, []), (265, .iload_n 3, 1, 0, 0, []), (266, .iconst 2, 1, 2, 0, []), (267, .iadd, 1, 0, 0, [])]
theorem ok_Law_264 : blkOK code pt_Law 268 I_Law_264 = true := by decide +kernel
theorem dl_268 : decode code 268 = .ok (.iaload, 1) := by decide +kernel
def I_Law_269 : List IT := [(269, .invokevirtual 40, 3, 0, 0, []), (272, .aload_n 2, 1, 0, 0, []), (273, .aload_n 0, 1, 0, 0, []), (274, .iload_n 3, 1, 0, 0, []), (275, .iconst 1, 1, 1, 0, []), (276, .iadd, 1, 0, 0, [])]
theorem ok_Law_269 : blkOK code pt_Law 277 I_Law_269 = true := by decide +kernel
theorem dl_277 : decode code 277 = .ok (.iaload, 1) := by decide +kernel
def I_Law_278 : List IT := [(278, .aload_n 0, 1, 0, 0, []), (279, .iload_n 3, 1, 0, 0, []), (280, .iconst 2, 1, 2, 0, []), (281, .iadd, 1, 0, 0, [])]
theorem ok_Law_278 : blkOK code pt_Law 282 I_Law_278 = true := by decide +kernel
theorem dl_282 : decode code 282 = .ok (.iaload, 1) := by decide +kernel
def I_Law_283 : List IT := [(283, .invokevirtual 43, 3, 0, 0, []), (286, .if_icmp .eq 113, 3, 0, 399, []), (289, .iconst 0, 1, 0, 0, []), (290, .ireturn, 1, 0, 0, [])]
theorem ok_Law_283 : blkOK code pt_Law 291 I_Law_283 = true := by decide +kernel
def I_Law_291 : List IT := [(291, .aload_n 1, 1, 0, 0, []), (292, .invokevirtual 44, 3, 0, 0, []), (295, .aload_n 2, 1, 0, 0, []), (296, .invokevirtual 48, 3, 0, 0, []), (299, .if_icmp .eq 100, 3, 0, 399, []), (302, .iconst 0, 1, 0, 0, []), (303, .ireturn, 1, 0, 0, [])]
theorem ok_Law_291 : blkOK code pt_Law 304 I_Law_291 = true := by decide +kernel
def I_Law_304 : List IT := [(304, .aload_n 1, 1, 0, 0, []), (305, .aload_n 0, 1, 0, 0, []), (306, .iload_n 3, 1, 0, 0, []), (307, .iconst 1, 1, 1, 0, []), (308, .iadd, 1, 0, 0, [])]
theorem ok_Law_304 : blkOK code pt_Law 309 I_Law_304 = true := by decide +kernel
theorem dl_309 : decode code 309 = .ok (.iaload, 1) := by decide +kernel
def I_Law_310 : List IT := [(310, .invokevirtual 49, 3, 0, 0, []), (313, .aload_n 2, 1, 0, 0, []), (314, .aload_n 0, 1, 0, 0, []), (315, .iload_n 3, 1, 0, 0, []), (316, .iconst 1, 1, 1, 0, []), (317, .iadd, 1, 0, 0, [])]
theorem ok_Law_310 : blkOK code pt_Law 318 I_Law_310 = true := by decide +kernel
theorem dl_318 : decode code 318 = .ok (.iaload, 1) := by decide +kernel
def I_Law_319 : List IT := [(319, .invokevirtual 52, 3, 0, 0, []), (322, .if_icmp .eq 77, 3, 0, 399, []), (325, .iconst 0, 1, 0, 0, []), (326, .ireturn, 1, 0, 0, [])]
theorem ok_Law_319 : blkOK code pt_Law 327 I_Law_319 = true := by decide +kernel
def I_Law_327 : List IT := [(327, .aload_n 1, 1, 0, 0, []), (328, .aload_n 0, 1, 0, 0, []), (329, .iload_n 3, 1, 0, 0, []), (330, .iconst 1, 1, 1, 0, []), (331, .iadd, 1, 0, 0, [])]
theorem ok_Law_327 : blkOK code pt_Law 332 I_Law_327 = true := by decide +kernel
theorem dl_332 : decode code 332 = .ok (.iaload, 1) := by decide +kernel
def I_Law_333 : List IT := [(333, .invokevirtual 53, 3, 0, 0, []), (336, .aload_n 2, 1, 0, 0, []), (337, .aload_n 0, 1, 0, 0, []), (338, .iload_n 3, 1, 0, 0, []), (339, .iconst 1, 1, 1, 0, []), (340, .iadd, 1, 0, 0, [])]
theorem ok_Law_333 : blkOK code pt_Law 341 I_Law_333 = true := by decide +kernel
theorem dl_341 : decode code 341 = .ok (.iaload, 1) := by decide +kernel
def I_Law_342 : List IT := [(342, .invokevirtual 56, 3, 0, 0, []), (345, .if_icmp .eq 54, 3, 0, 399, []), (348, .iconst 0, 1, 0, 0, []), (349, .ireturn, 1, 0, 0, [])]
theorem ok_Law_342 : blkOK code pt_Law 350 I_Law_342 = true := by decide +kernel
def I_Law_350 : List IT := [(350, .aload_n 1, 1, 0, 0, []), (351, .aload_n 0, 1, 0, 0, []), (352, .iload_n 3, 1, 0, 0, []), (353, .iconst 1, 1, 1, 0, []), (354, .iadd, 1, 0, 0, [])]
theorem ok_Law_350 : blkOK code pt_Law 355 I_Law_350 = true := by decide +kernel
theorem dl_355 : decode code 355 = .ok (.iaload, 1) := by decide +kernel
def I_Law_356 : List IT := [(356, .invokevirtual 57, 3, 0, 0, []), (359, .aload_n 2, 1, 0, 0, []), (360, .aload_n 0, 1, 0, 0, []), (361, .iload_n 3, 1, 0, 0, []), (362, .iconst 1, 1, 1, 0, []), (363, .iadd, 1, 0, 0, [])]
theorem ok_Law_356 : blkOK code pt_Law 364 I_Law_356 = true := by decide +kernel
theorem dl_364 : decode code 364 = .ok (.iaload, 1) := by decide +kernel
def I_Law_365 : List IT := [(365, .invokevirtual 60, 3, 0, 0, []), (368, .if_icmp .eq 31, 3, 0, 399, []), (371, .iconst 0, 1, 0, 0, []), (372, .ireturn, 1, 0, 0, [])]
theorem ok_Law_365 : blkOK code pt_Law 373 I_Law_365 = true := by decide +kernel
def I_Law_373 : List IT := [(373, .aload_n 1, 1, 0, 0, []), (374, .invokevirtual 61, 3, 0, 0, []), (377, .aload_n 2, 1, 0, 0, []), (378, .invokevirtual 65, 3, 0, 0, []), (381, .if_icmp .eq 18, 3, 0, 399, []), (384, .iconst 0, 1, 0, 0, []), (385, .ireturn, 1, 0, 0, [])]
theorem ok_Law_373 : blkOK code pt_Law 386 I_Law_373 = true := by decide +kernel
def I_Law_386 : List IT := [(386, .aload_n 1, 1, 0, 0, []), (387, .invokevirtual 66, 3, 0, 0, []), (390, .aload_n 2, 1, 0, 0, []), (391, .invokevirtual 69, 3, 0, 0, []), (394, .if_icmp .eq 5, 3, 0, 399, []), (397, .iconst 0, 1, 0, 0, []), (398, .ireturn, 1, 0, 0, [])]
theorem ok_Law_386 : blkOK code pt_Law 399 I_Law_386 = true := by decide +kernel
def I_Law_399 : List IT := [(399, .iinc 3 3, 3, 3, 0, []), (402, .goto (-384), 3, 0, 18, [])]
theorem ok_Law_399 : blkOK code pt_Law 405 I_Law_399 = true := by decide +kernel
def I_Law_405 : List IT := [(405, .iconst 1, 1, 1, 0, []), (406, .ireturn, 1, 0, 0, [])]
theorem ok_Law_405 : blkOK code pt_Law 407 I_Law_405 = true := by decide +kernel
/-! what the pure side owes, an operation each -/
def OP_poke (Rel : Sg → Prop) : Prop := ∀ (σ : Sg) (a b : Int32), Rel σ → True ∧ (True ∧ ((f_SC_poke σ a b).1 = (f_Mod_poke (f_SC_poke σ a b).2 a b).1 ∧ Rel (f_Mod_poke (f_SC_poke σ a b).2 a b).2))
def OP_load (Rel : Sg → Prop) : Prop := ∀ (σ : Sg) (a b : Int32), Rel σ → True ∧ ((0 ≤ ((f_SC_load σ a b).2 15 8).toInt ∧ ((f_SC_load σ a b).2 15 8).toInt ≤ 1024) ∧ ((f_SC_load σ a b).1 = (f_Mod_load (f_SC_load σ a b).2 a b).1 ∧ Rel (f_Mod_load (f_SC_load σ a b).2 a b).2))
def OP_seek (Rel : Sg → Prop) : Prop := ∀ (σ : Sg) (a : Int32), Rel σ → True ∧ (True ∧ ((f_SC_seek σ a).1 = (f_Mod_seek (f_SC_seek σ a).2 a).1 ∧ Rel (f_Mod_seek (f_SC_seek σ a).2 a).2))
def OP_peek (Rel : Sg → Prop) : Prop := ∀ (σ : Sg) (a : Int32), Rel σ → True ∧ (True ∧ ((f_SC_peek σ a).1 = (f_Mod_peek (f_SC_peek σ a).2 a).1 ∧ Rel (f_Mod_peek (f_SC_peek σ a).2 a).2))
def OP_step (Rel : Sg → Prop) : Prop := ∀ (σ : Sg) (a : Int32), Rel σ → (∀ j, j < 100 → Mb (f_Tim_tick (itC j σ))) ∧ ((∀ j, j < 100 → KY (itT j (f_SC_step σ a).2) ∧ MB (itT j (f_SC_step σ a).2)) ∧ ((f_SC_step σ a).1 = (f_Mod_step (f_SC_step σ a).2 a).1 ∧ Rel (f_Mod_step (f_SC_step σ a).2 a).2))
def OP_register (Rel : Sg → Prop) : Prop := ∀ (σ : Sg) (a : Int32), Rel σ → True ∧ (True ∧ ((f_SC_register σ a).1 = (f_Mod_register (f_SC_register σ a).2 a).1 ∧ Rel (f_Mod_register (f_SC_register σ a).2 a).2))
def OP_put (Rel : Sg → Prop) : Prop := ∀ (σ : Sg) (a b : Int32), Rel σ → True ∧ (True ∧ ((f_SC_put σ a b).1 = (f_Mod_put (f_SC_put σ a b).2 a b).1 ∧ Rel (f_Mod_put (f_SC_put σ a b).2 a b).2))
def OP_halted (Rel : Sg → Prop) : Prop := ∀ (σ : Sg), Rel σ → (σ 12 6 = 0 ∨ σ 12 6 = 1) ∧ (((f_SC_halted σ).2 15 5 = 0 ∨ (f_SC_halted σ).2 15 5 = 1) ∧ ((f_SC_halted σ).1 = (f_Mod_halted (f_SC_halted σ).2).1 ∧ Rel (f_Mod_halted (f_SC_halted σ).2).2))
def OP_key (Rel : Sg → Prop) : Prop := ∀ (σ : Sg) (a : Int32), Rel σ → (¬ σ 9 2 < 0) ∧ (KY (f_SC_key σ a).2 ∧ ((f_SC_key σ a).1 = (f_Mod_key (f_SC_key σ a).2 a).1 ∧ Rel (f_Mod_key (f_SC_key σ a).2 a).2))
def OP_transfer (Rel : Sg → Prop) : Prop := ∀ (σ : Sg) (a : Int32), Rel σ → True ∧ (vp_in ((256 : Int32) * (f_SC_transfer σ a).2 15 32 + (f_SC_transfer σ a).2 15 30) 1024 ∧ ((f_SC_transfer σ a).1 = (f_Mod_transfer (f_SC_transfer σ a).2 a).1 ∧ Rel (f_Mod_transfer (f_SC_transfer σ a).2 a).2))
def OP_lines (Rel : Sg → Prop) : Prop := ∀ (σ : Sg) (a : Int32), Rel σ → True ∧ (True ∧ ((f_SC_lines σ a).1 = (f_Mod_lines (f_SC_lines σ a).2 a).1 ∧ Rel (f_Mod_lines (f_SC_lines σ a).2 a).2))
def OP_count (Rel : Sg → Prop) : Prop := ∀ (σ : Sg), Rel σ → True ∧ (True ∧ ((f_SC_count σ).1 = (f_Mod_count (f_SC_count σ).2).1 ∧ Rel (f_Mod_count (f_SC_count σ).2).2))
def OP_interrupts (Rel : Sg → Prop) : Prop := ∀ (σ : Sg), Rel σ → True ∧ (True ∧ ((f_SC_interrupts σ).1 = (f_Mod_interrupts (f_SC_interrupts σ).2).1 ∧ Rel (f_Mod_interrupts (f_SC_interrupts σ).2).2))
/-- what the law's walk may use -/
def LawX (l : Launch) (ad : Nat → Nat) (D : va_G) (cI : ClassId) (L : Nat) (xs : Nat → Int32) (X : Nat → List Value → List Value → Sg → Prop) : Prop :=
  (∀ (en : Nat) (is : List IT), blkOK code pt_Law en is = true → ∀ (lv st : List Value) (σ : Sg), blk l ad D cI pt_Law (some .boolean) (11, 252) X (fun r _ => r = some (.int 1)) en is lv st σ → X (hdp is en) lv st σ) ∧
  (∀ (pc : Nat) (lv : List Value) (i : Int32) (r : List Value) (σ : Sg), decode code pc = .ok (.iaload, 1) → vp_in i L → X (pc + 1) lv (.int (xs i.toNatClampNeg) :: r) σ → X pc lv (.int i :: .ref 1000 :: r) σ) ∧
  (∀ (pc : Nat) (lv : List Value) (r : List Value) (σ : Sg), decode code pc = .ok (.arraylength, 1) → X (pc + 1) lv (.int (Int32.ofNat L) :: r) σ → X pc lv (.ref 1000 :: r) σ)
theorem lin0 {i L : Nat} (hi : i + 2 < L) (hL : L ≤ 1536) : vp_in (nI i) L := vp_in_nI (by omega) (by omega)
theorem lin1 {i L : Nat} (hi : i + 2 < L) (hL : L ≤ 1536) : vp_in (nI i + 1) L := by rw [nI_1]; exact vp_in_nI (by omega) (by omega)
theorem lin2 {i L : Nat} (hi : i + 2 < L) (hL : L ≤ 1536) : vp_in (nI i + 2) L := by rw [show (2 : Int32) = nI 2 from rfl, nI_add]; exact vp_in_nI (by omega) (by omega)
theorem lhi {i L : Nat} (hL : L ≤ 1536) (hi : i ≤ L) (h : ¬ Int32.ofNat L - 3 < nI i) : i + 2 < L := by
  rw [i_lt] at h
  have e : (nI L - nI 3).toInt = (L : Int) - 3 := pk_sub_toInt (by omega) (by omega)
  have e2 : (nI i).toInt = (i : Int) := nI_toInt (by omega)
  have e3 : (Int32.ofNat L - 3).toInt = (L : Int) - 3 := e
  rw [e3, e2] at h
  omega
set_option maxRecDepth 100000 in
set_option maxHeartbeats 4000000 in
theorem lc_poke {l : Launch} {ad : Nat → Nat} {D : va_G} {cI : ClassId} {L : Nat} {xs : Nat → Int32} {X : Nat → List Value → List Value → Sg → Prop} {Rel : Sg → Prop} (hX : LawX l ad D cI L xs X) (ok : OP_poke Rel) {i : Nat} (hi : i + 2 < L) (hL : L ≤ 1536) {σ : Sg} (hR : Rel σ) (go : ∀ σ, Rel σ → X 399 [.ref 1000, .ref 0, .ref 15, .int (nI i)] [] σ) : X 100 [.ref 1000, .ref 0, .ref 15, .int (nI i)] [] σ := by
  obtain ⟨hc, ht, he, hr⟩ := ok σ (xs (nI i + 1).toNatClampNeg) (xs (nI i + 2).toNatClampNeg) hR
  refine hX.1 105 I_Law_100 ok_Law_100 _ _ _ ?_
  refine hX.2.1 105 _ _ _ _ dl_105 (lin1 hi hL) ?_
  refine hX.1 110 I_Law_106 ok_Law_106 _ _ _ ?_
  refine hX.2.1 110 _ _ _ _ dl_110 (lin2 hi hL) ?_
  refine hX.1 119 I_Law_111 ok_Law_111 _ _ _ ?_
  refine s_SC_poke  ?_
  revert ht he hr
  generalize f_SC_poke σ (xs (nI i + 1).toNatClampNeg) (xs (nI i + 2).toNatClampNeg) = r1
  intro ht he hr
  refine hX.2.1 119 _ _ _ _ dl_119 (lin1 hi hL) ?_
  refine hX.1 124 I_Law_120 ok_Law_120 _ _ _ ?_
  refine hX.2.1 124 _ _ _ _ dl_124 (lin2 hi hL) ?_
  refine hX.1 133 I_Law_125 ok_Law_125 _ _ _ ?_
  refine s_Mod_poke  ?_
  revert he hr
  generalize f_Mod_poke r1.2 (xs (nI i + 1).toNatClampNeg) (xs (nI i + 2).toNatClampNeg) = r2
  intro he hr
  exact And.intro (fun _ => go _ hr) (fun hne => absurd he hne)
set_option maxRecDepth 100000 in
set_option maxHeartbeats 4000000 in
theorem lc_load {l : Launch} {ad : Nat → Nat} {D : va_G} {cI : ClassId} {L : Nat} {xs : Nat → Int32} {X : Nat → List Value → List Value → Sg → Prop} {Rel : Sg → Prop} (hX : LawX l ad D cI L xs X) (ok : OP_load Rel) {i : Nat} (hi : i + 2 < L) (hL : L ≤ 1536) {σ : Sg} (hR : Rel σ) (go : ∀ σ, Rel σ → X 399 [.ref 1000, .ref 0, .ref 15, .int (nI i)] [] σ) : X 133 [.ref 1000, .ref 0, .ref 15, .int (nI i)] [] σ := by
  obtain ⟨hc, ht, he, hr⟩ := ok σ (xs (nI i + 1).toNatClampNeg) (xs (nI i + 2).toNatClampNeg) hR
  refine hX.1 138 I_Law_133 ok_Law_133 _ _ _ ?_
  refine hX.2.1 138 _ _ _ _ dl_138 (lin1 hi hL) ?_
  refine hX.1 143 I_Law_139 ok_Law_139 _ _ _ ?_
  refine hX.2.1 143 _ _ _ _ dl_143 (lin2 hi hL) ?_
  refine hX.1 152 I_Law_144 ok_Law_144 _ _ _ ?_
  refine s_SC_load  ?_
  revert ht he hr
  generalize f_SC_load σ (xs (nI i + 1).toNatClampNeg) (xs (nI i + 2).toNatClampNeg) = r1
  intro ht he hr
  refine hX.2.1 152 _ _ _ _ dl_152 (lin1 hi hL) ?_
  refine hX.1 157 I_Law_153 ok_Law_153 _ _ _ ?_
  refine hX.2.1 157 _ _ _ _ dl_157 (lin2 hi hL) ?_
  refine hX.1 166 I_Law_158 ok_Law_158 _ _ _ ?_
  refine s_Mod_load ht ?_
  revert he hr
  generalize f_Mod_load r1.2 (xs (nI i + 1).toNatClampNeg) (xs (nI i + 2).toNatClampNeg) = r2
  intro he hr
  exact And.intro (fun _ => go _ hr) (fun hne => absurd he hne)
set_option maxRecDepth 100000 in
set_option maxHeartbeats 4000000 in
theorem lc_seek {l : Launch} {ad : Nat → Nat} {D : va_G} {cI : ClassId} {L : Nat} {xs : Nat → Int32} {X : Nat → List Value → List Value → Sg → Prop} {Rel : Sg → Prop} (hX : LawX l ad D cI L xs X) (ok : OP_seek Rel) {i : Nat} (hi : i + 2 < L) (hL : L ≤ 1536) {σ : Sg} (hR : Rel σ) (go : ∀ σ, Rel σ → X 399 [.ref 1000, .ref 0, .ref 15, .int (nI i)] [] σ) : X 166 [.ref 1000, .ref 0, .ref 15, .int (nI i)] [] σ := by
  obtain ⟨hc, ht, he, hr⟩ := ok σ (xs (nI i + 1).toNatClampNeg) hR
  refine hX.1 171 I_Law_166 ok_Law_166 _ _ _ ?_
  refine hX.2.1 171 _ _ _ _ dl_171 (lin1 hi hL) ?_
  refine hX.1 180 I_Law_172 ok_Law_172 _ _ _ ?_
  refine s_SC_seek  ?_
  revert ht he hr
  generalize f_SC_seek σ (xs (nI i + 1).toNatClampNeg) = r1
  intro ht he hr
  refine hX.2.1 180 _ _ _ _ dl_180 (lin1 hi hL) ?_
  refine hX.1 189 I_Law_181 ok_Law_181 _ _ _ ?_
  refine s_Mod_seek  ?_
  revert he hr
  generalize f_Mod_seek r1.2 (xs (nI i + 1).toNatClampNeg) = r2
  intro he hr
  exact And.intro (fun _ => go _ hr) (fun hne => absurd he hne)
set_option maxRecDepth 100000 in
set_option maxHeartbeats 4000000 in
theorem lc_peek {l : Launch} {ad : Nat → Nat} {D : va_G} {cI : ClassId} {L : Nat} {xs : Nat → Int32} {X : Nat → List Value → List Value → Sg → Prop} {Rel : Sg → Prop} (hX : LawX l ad D cI L xs X) (ok : OP_peek Rel) {i : Nat} (hi : i + 2 < L) (hL : L ≤ 1536) {σ : Sg} (hR : Rel σ) (go : ∀ σ, Rel σ → X 399 [.ref 1000, .ref 0, .ref 15, .int (nI i)] [] σ) : X 189 [.ref 1000, .ref 0, .ref 15, .int (nI i)] [] σ := by
  obtain ⟨hc, ht, he, hr⟩ := ok σ (xs (nI i + 1).toNatClampNeg) hR
  refine hX.1 194 I_Law_189 ok_Law_189 _ _ _ ?_
  refine hX.2.1 194 _ _ _ _ dl_194 (lin1 hi hL) ?_
  refine hX.1 203 I_Law_195 ok_Law_195 _ _ _ ?_
  refine s_SC_peek  ?_
  revert ht he hr
  generalize f_SC_peek σ (xs (nI i + 1).toNatClampNeg) = r1
  intro ht he hr
  refine hX.2.1 203 _ _ _ _ dl_203 (lin1 hi hL) ?_
  refine hX.1 212 I_Law_204 ok_Law_204 _ _ _ ?_
  refine s_Mod_peek  ?_
  revert he hr
  generalize f_Mod_peek r1.2 (xs (nI i + 1).toNatClampNeg) = r2
  intro he hr
  exact And.intro (fun _ => go _ hr) (fun hne => absurd he hne)
set_option maxRecDepth 100000 in
set_option maxHeartbeats 4000000 in
theorem lc_step {l : Launch} {ad : Nat → Nat} {D : va_G} {cI : ClassId} {L : Nat} {xs : Nat → Int32} {X : Nat → List Value → List Value → Sg → Prop} {Rel : Sg → Prop} (hX : LawX l ad D cI L xs X) (ok : OP_step Rel) {i : Nat} (hi : i + 2 < L) (hL : L ≤ 1536) {σ : Sg} (hR : Rel σ) (go : ∀ σ, Rel σ → X 399 [.ref 1000, .ref 0, .ref 15, .int (nI i)] [] σ) : X 212 [.ref 1000, .ref 0, .ref 15, .int (nI i)] [] σ := by
  obtain ⟨hc, ht, he, hr⟩ := ok σ (xs (nI i + 1).toNatClampNeg) hR
  refine hX.1 217 I_Law_212 ok_Law_212 _ _ _ ?_
  refine hX.2.1 217 _ _ _ _ dl_217 (lin1 hi hL) ?_
  refine hX.1 226 I_Law_218 ok_Law_218 _ _ _ ?_
  refine s_SC_step hc ?_
  revert ht he hr
  generalize f_SC_step σ (xs (nI i + 1).toNatClampNeg) = r1
  intro ht he hr
  refine hX.2.1 226 _ _ _ _ dl_226 (lin1 hi hL) ?_
  refine hX.1 235 I_Law_227 ok_Law_227 _ _ _ ?_
  refine s_Mod_step ht ?_
  revert he hr
  generalize f_Mod_step r1.2 (xs (nI i + 1).toNatClampNeg) = r2
  intro he hr
  exact And.intro (fun _ => go _ hr) (fun hne => absurd he hne)
set_option maxRecDepth 100000 in
set_option maxHeartbeats 4000000 in
theorem lc_register {l : Launch} {ad : Nat → Nat} {D : va_G} {cI : ClassId} {L : Nat} {xs : Nat → Int32} {X : Nat → List Value → List Value → Sg → Prop} {Rel : Sg → Prop} (hX : LawX l ad D cI L xs X) (ok : OP_register Rel) {i : Nat} (hi : i + 2 < L) (hL : L ≤ 1536) {σ : Sg} (hR : Rel σ) (go : ∀ σ, Rel σ → X 399 [.ref 1000, .ref 0, .ref 15, .int (nI i)] [] σ) : X 235 [.ref 1000, .ref 0, .ref 15, .int (nI i)] [] σ := by
  obtain ⟨hc, ht, he, hr⟩ := ok σ (xs (nI i + 1).toNatClampNeg) hR
  refine hX.1 240 I_Law_235 ok_Law_235 _ _ _ ?_
  refine hX.2.1 240 _ _ _ _ dl_240 (lin1 hi hL) ?_
  refine hX.1 249 I_Law_241 ok_Law_241 _ _ _ ?_
  refine s_SC_register  ?_
  revert ht he hr
  generalize f_SC_register σ (xs (nI i + 1).toNatClampNeg) = r1
  intro ht he hr
  refine hX.2.1 249 _ _ _ _ dl_249 (lin1 hi hL) ?_
  refine hX.1 258 I_Law_250 ok_Law_250 _ _ _ ?_
  refine s_Mod_register  ?_
  revert he hr
  generalize f_Mod_register r1.2 (xs (nI i + 1).toNatClampNeg) = r2
  intro he hr
  exact And.intro (fun _ => go _ hr) (fun hne => absurd he hne)
set_option maxRecDepth 100000 in
set_option maxHeartbeats 4000000 in
theorem lc_put {l : Launch} {ad : Nat → Nat} {D : va_G} {cI : ClassId} {L : Nat} {xs : Nat → Int32} {X : Nat → List Value → List Value → Sg → Prop} {Rel : Sg → Prop} (hX : LawX l ad D cI L xs X) (ok : OP_put Rel) {i : Nat} (hi : i + 2 < L) (hL : L ≤ 1536) {σ : Sg} (hR : Rel σ) (go : ∀ σ, Rel σ → X 399 [.ref 1000, .ref 0, .ref 15, .int (nI i)] [] σ) : X 258 [.ref 1000, .ref 0, .ref 15, .int (nI i)] [] σ := by
  obtain ⟨hc, ht, he, hr⟩ := ok σ (xs (nI i + 1).toNatClampNeg) (xs (nI i + 2).toNatClampNeg) hR
  refine hX.1 263 I_Law_258 ok_Law_258 _ _ _ ?_
  refine hX.2.1 263 _ _ _ _ dl_263 (lin1 hi hL) ?_
  refine hX.1 268 I_Law_264 ok_Law_264 _ _ _ ?_
  refine hX.2.1 268 _ _ _ _ dl_268 (lin2 hi hL) ?_
  refine hX.1 277 I_Law_269 ok_Law_269 _ _ _ ?_
  refine s_SC_put  ?_
  revert ht he hr
  generalize f_SC_put σ (xs (nI i + 1).toNatClampNeg) (xs (nI i + 2).toNatClampNeg) = r1
  intro ht he hr
  refine hX.2.1 277 _ _ _ _ dl_277 (lin1 hi hL) ?_
  refine hX.1 282 I_Law_278 ok_Law_278 _ _ _ ?_
  refine hX.2.1 282 _ _ _ _ dl_282 (lin2 hi hL) ?_
  refine hX.1 291 I_Law_283 ok_Law_283 _ _ _ ?_
  refine s_Mod_put  ?_
  revert he hr
  generalize f_Mod_put r1.2 (xs (nI i + 1).toNatClampNeg) (xs (nI i + 2).toNatClampNeg) = r2
  intro he hr
  exact And.intro (fun _ => go _ hr) (fun hne => absurd he hne)
set_option maxRecDepth 100000 in
set_option maxHeartbeats 4000000 in
theorem lc_halted {l : Launch} {ad : Nat → Nat} {D : va_G} {cI : ClassId} {L : Nat} {xs : Nat → Int32} {X : Nat → List Value → List Value → Sg → Prop} {Rel : Sg → Prop} (hX : LawX l ad D cI L xs X) (ok : OP_halted Rel) {i : Nat} (hi : i + 2 < L) (hL : L ≤ 1536) {σ : Sg} (hR : Rel σ) (go : ∀ σ, Rel σ → X 399 [.ref 1000, .ref 0, .ref 15, .int (nI i)] [] σ) : X 291 [.ref 1000, .ref 0, .ref 15, .int (nI i)] [] σ := by
  obtain ⟨hc, ht, he, hr⟩ := ok σ  hR
  refine hX.1 304 I_Law_291 ok_Law_291 _ _ _ ?_
  refine s_SC_halted hc ?_
  revert ht he hr
  generalize f_SC_halted σ  = r1
  intro ht he hr
  refine s_Mod_halted ht ?_
  revert he hr
  generalize f_Mod_halted r1.2  = r2
  intro he hr
  exact And.intro (fun _ => go _ hr) (fun hne => absurd he hne)
set_option maxRecDepth 100000 in
set_option maxHeartbeats 4000000 in
theorem lc_key {l : Launch} {ad : Nat → Nat} {D : va_G} {cI : ClassId} {L : Nat} {xs : Nat → Int32} {X : Nat → List Value → List Value → Sg → Prop} {Rel : Sg → Prop} (hX : LawX l ad D cI L xs X) (ok : OP_key Rel) {i : Nat} (hi : i + 2 < L) (hL : L ≤ 1536) {σ : Sg} (hR : Rel σ) (go : ∀ σ, Rel σ → X 399 [.ref 1000, .ref 0, .ref 15, .int (nI i)] [] σ) : X 304 [.ref 1000, .ref 0, .ref 15, .int (nI i)] [] σ := by
  obtain ⟨hc, ht, he, hr⟩ := ok σ (xs (nI i + 1).toNatClampNeg) hR
  refine hX.1 309 I_Law_304 ok_Law_304 _ _ _ ?_
  refine hX.2.1 309 _ _ _ _ dl_309 (lin1 hi hL) ?_
  refine hX.1 318 I_Law_310 ok_Law_310 _ _ _ ?_
  refine s_SC_key hc ?_
  revert ht he hr
  generalize f_SC_key σ (xs (nI i + 1).toNatClampNeg) = r1
  intro ht he hr
  refine hX.2.1 318 _ _ _ _ dl_318 (lin1 hi hL) ?_
  refine hX.1 327 I_Law_319 ok_Law_319 _ _ _ ?_
  refine s_Mod_key ht ?_
  revert he hr
  generalize f_Mod_key r1.2 (xs (nI i + 1).toNatClampNeg) = r2
  intro he hr
  exact And.intro (fun _ => go _ hr) (fun hne => absurd he hne)
set_option maxRecDepth 100000 in
set_option maxHeartbeats 4000000 in
theorem lc_transfer {l : Launch} {ad : Nat → Nat} {D : va_G} {cI : ClassId} {L : Nat} {xs : Nat → Int32} {X : Nat → List Value → List Value → Sg → Prop} {Rel : Sg → Prop} (hX : LawX l ad D cI L xs X) (ok : OP_transfer Rel) {i : Nat} (hi : i + 2 < L) (hL : L ≤ 1536) {σ : Sg} (hR : Rel σ) (go : ∀ σ, Rel σ → X 399 [.ref 1000, .ref 0, .ref 15, .int (nI i)] [] σ) : X 327 [.ref 1000, .ref 0, .ref 15, .int (nI i)] [] σ := by
  obtain ⟨hc, ht, he, hr⟩ := ok σ (xs (nI i + 1).toNatClampNeg) hR
  refine hX.1 332 I_Law_327 ok_Law_327 _ _ _ ?_
  refine hX.2.1 332 _ _ _ _ dl_332 (lin1 hi hL) ?_
  refine hX.1 341 I_Law_333 ok_Law_333 _ _ _ ?_
  refine s_SC_transfer  ?_
  revert ht he hr
  generalize f_SC_transfer σ (xs (nI i + 1).toNatClampNeg) = r1
  intro ht he hr
  refine hX.2.1 341 _ _ _ _ dl_341 (lin1 hi hL) ?_
  refine hX.1 350 I_Law_342 ok_Law_342 _ _ _ ?_
  refine s_Mod_transfer ht ?_
  revert he hr
  generalize f_Mod_transfer r1.2 (xs (nI i + 1).toNatClampNeg) = r2
  intro he hr
  exact And.intro (fun _ => go _ hr) (fun hne => absurd he hne)
set_option maxRecDepth 100000 in
set_option maxHeartbeats 4000000 in
theorem lc_lines {l : Launch} {ad : Nat → Nat} {D : va_G} {cI : ClassId} {L : Nat} {xs : Nat → Int32} {X : Nat → List Value → List Value → Sg → Prop} {Rel : Sg → Prop} (hX : LawX l ad D cI L xs X) (ok : OP_lines Rel) {i : Nat} (hi : i + 2 < L) (hL : L ≤ 1536) {σ : Sg} (hR : Rel σ) (go : ∀ σ, Rel σ → X 399 [.ref 1000, .ref 0, .ref 15, .int (nI i)] [] σ) : X 350 [.ref 1000, .ref 0, .ref 15, .int (nI i)] [] σ := by
  obtain ⟨hc, ht, he, hr⟩ := ok σ (xs (nI i + 1).toNatClampNeg) hR
  refine hX.1 355 I_Law_350 ok_Law_350 _ _ _ ?_
  refine hX.2.1 355 _ _ _ _ dl_355 (lin1 hi hL) ?_
  refine hX.1 364 I_Law_356 ok_Law_356 _ _ _ ?_
  refine s_SC_lines  ?_
  revert ht he hr
  generalize f_SC_lines σ (xs (nI i + 1).toNatClampNeg) = r1
  intro ht he hr
  refine hX.2.1 364 _ _ _ _ dl_364 (lin1 hi hL) ?_
  refine hX.1 373 I_Law_365 ok_Law_365 _ _ _ ?_
  refine s_Mod_lines  ?_
  revert he hr
  generalize f_Mod_lines r1.2 (xs (nI i + 1).toNatClampNeg) = r2
  intro he hr
  exact And.intro (fun _ => go _ hr) (fun hne => absurd he hne)
set_option maxRecDepth 100000 in
set_option maxHeartbeats 4000000 in
theorem lc_count {l : Launch} {ad : Nat → Nat} {D : va_G} {cI : ClassId} {L : Nat} {xs : Nat → Int32} {X : Nat → List Value → List Value → Sg → Prop} {Rel : Sg → Prop} (hX : LawX l ad D cI L xs X) (ok : OP_count Rel) {i : Nat} (hi : i + 2 < L) (hL : L ≤ 1536) {σ : Sg} (hR : Rel σ) (go : ∀ σ, Rel σ → X 399 [.ref 1000, .ref 0, .ref 15, .int (nI i)] [] σ) : X 373 [.ref 1000, .ref 0, .ref 15, .int (nI i)] [] σ := by
  obtain ⟨hc, ht, he, hr⟩ := ok σ  hR
  refine hX.1 386 I_Law_373 ok_Law_373 _ _ _ ?_
  refine s_SC_count  ?_
  revert ht he hr
  generalize f_SC_count σ  = r1
  intro ht he hr
  refine s_Mod_count  ?_
  revert he hr
  generalize f_Mod_count r1.2  = r2
  intro he hr
  exact And.intro (fun _ => go _ hr) (fun hne => absurd he hne)
set_option maxRecDepth 100000 in
set_option maxHeartbeats 4000000 in
theorem lc_interrupts {l : Launch} {ad : Nat → Nat} {D : va_G} {cI : ClassId} {L : Nat} {xs : Nat → Int32} {X : Nat → List Value → List Value → Sg → Prop} {Rel : Sg → Prop} (hX : LawX l ad D cI L xs X) (ok : OP_interrupts Rel) {i : Nat} (hi : i + 2 < L) (hL : L ≤ 1536) {σ : Sg} (hR : Rel σ) (go : ∀ σ, Rel σ → X 399 [.ref 1000, .ref 0, .ref 15, .int (nI i)] [] σ) : X 386 [.ref 1000, .ref 0, .ref 15, .int (nI i)] [] σ := by
  obtain ⟨hc, ht, he, hr⟩ := ok σ  hR
  refine hX.1 399 I_Law_386 ok_Law_386 _ _ _ ?_
  refine s_SC_interrupts  ?_
  revert ht he hr
  generalize f_SC_interrupts σ  = r1
  intro ht he hr
  refine s_Mod_interrupts  ?_
  revert he hr
  generalize f_Mod_interrupts r1.2  = r2
  intro he hr
  exact And.intro (fun _ => go _ hr) (fun hne => absurd he hne)
set_option maxRecDepth 100000 in
set_option maxHeartbeats 4000000 in
theorem law_loop {l : Launch} {ad : Nat → Nat} {D : va_G} {cI : ClassId} {L : Nat} {xs : Nat → Int32} {X : Nat → List Value → List Value → Sg → Prop} {Rel : Sg → Prop} (hX : LawX l ad D cI L xs X) (hL : L ≤ 1536) (o_poke : OP_poke Rel) (o_load : OP_load Rel) (o_seek : OP_seek Rel) (o_peek : OP_peek Rel) (o_step : OP_step Rel) (o_register : OP_register Rel) (o_put : OP_put Rel) (o_halted : OP_halted Rel) (o_key : OP_key Rel) (o_transfer : OP_transfer Rel) (o_lines : OP_lines Rel) (o_count : OP_count Rel) (o_interrupts : OP_interrupts Rel) : ∀ (f i : Nat) (σ : Sg), Rel σ → L < i + f → i ≤ L → X 18 [.ref 1000, .ref 0, .ref 15, .int (nI i)] [] σ
  | 0, i, σ, hR, hf, hi => absurd hf (by omega)
  | f + 1, i, σ, hR, hf, hi => by
    refine hX.1 20 I_Law_18 ok_Law_18 _ _ _ ?_
    refine hX.2.2 20 _ _ _ dl_20 ?_
    refine hX.1 28 I_Law_21 ok_Law_21 _ _ _ ?_
    refine And.intro (fun h => ?_) (fun h => ?_)
    · refine hX.1 407 I_Law_405 ok_Law_405 _ _ _ ?_
      exact And.intro (Or.inr rfl) rfl
    · have h2 := lhi hL hi h
      have go : ∀ σ, Rel σ → X 399 [.ref 1000, .ref 0, .ref 15, .int (nI i)] [] σ := fun σ hR => by
        refine hX.1 405 I_Law_399 ok_Law_399 _ _ _ ?_
        have h9 := law_loop hX hL o_poke o_load o_seek o_peek o_step o_register o_put o_halted o_key o_transfer o_lines o_count o_interrupts f (i + 3) σ hR (by omega) (by omega)
        rw [← nI_add] at h9
        exact h9
      refine hX.2.1 28 _ _ _ _ dl_28 (lin0 h2 hL) ?_
      refine hX.1 100 I_Law_29 ok_Law_29 _ _ _ ?_
      refine And.intro (fun _ => lc_poke hX o_poke h2 hL hR go) (fun _ => ?_)
      refine And.intro (fun _ => lc_load hX o_load h2 hL hR go) (fun _ => ?_)
      refine And.intro (fun _ => lc_seek hX o_seek h2 hL hR go) (fun _ => ?_)
      refine And.intro (fun _ => lc_peek hX o_peek h2 hL hR go) (fun _ => ?_)
      refine And.intro (fun _ => lc_step hX o_step h2 hL hR go) (fun _ => ?_)
      refine And.intro (fun _ => lc_register hX o_register h2 hL hR go) (fun _ => ?_)
      refine And.intro (fun _ => lc_put hX o_put h2 hL hR go) (fun _ => ?_)
      refine And.intro (fun _ => lc_halted hX o_halted h2 hL hR go) (fun _ => ?_)
      refine And.intro (fun _ => lc_key hX o_key h2 hL hR go) (fun _ => ?_)
      refine And.intro (fun _ => lc_transfer hX o_transfer h2 hL hR go) (fun _ => ?_)
      refine And.intro (fun _ => lc_lines hX o_lines h2 hL hR go) (fun _ => ?_)
      refine And.intro (fun _ => lc_count hX o_count h2 hL hR go) (fun _ => ?_)
      refine And.intro (fun _ => lc_interrupts hX o_interrupts h2 hL hR go) (fun _ => ?_)
      exact go _ hR
