/-! ===== the law's loop ===== -/
abbrev LQ : Po := fun o _ _ => o = .inl (some (.int 1))
abbrev l5 (j : Nat) : List (Option Value) := [some (.ref (SB + 110)), some (.ref 0), some (.ref 59), some (.ref 562), some (.int (nI (9 * j)))]
abbrev l8 (j : Nat) : List (Option Value) := [some (.ref (SB + 110)), some (.ref 0), some (.ref 59), some (.ref 562), some (.int (nI (9 * j))), none, none, none]
theorem lw_feed {g : Gp} {INV : Sx → Prop} {S : Sx} {j n sz : Nat} (hL : gV g 11 ≤ 4608) (hj : 9 * j + 9 ≤ gV g 11) (H : SP g INV mX10_feed mX11_feed [.int (xsG g (9 * j + 1)), .int (xsG g (9 * j + 2)), .int (xsG g (9 * j + 3)), .int (xsG g (9 * j + 4)), .int (xsG g (9 * j + 5))] S) (hend : ∀ S' sz', INV S' → J g mLW 60 [] 2409 (l5 j) [] (hs S') sz' n (6 * n) LQ) : J g mLW 60 [] 212 (l8 j) [] (hs S) sz (n + 1) (6 * (n + 1)) LQ := by
  obtain ⟨d1, d2, P, hd1, hd2, hC, hM⟩ := H
  refine J_aload_n (pc := 212) dL_law__212 rfl ?_
  refine J_aload_n (pc := 213) dL_law__213 rfl ?_
  refine J_iload (pc := 214) dL_law__214 rfl ?_
  refine J_iconst (pc := 216) (v := 1) dL_law__216 (by decide) ?_
  refine J_iadd (pc := 217) dL_law__217 ?_
  refine J_sil (pc := 218) (q := 9 * j + 1) dL_law__218 (nI_add _ 1) (by omega) (by omega) ?_
  refine J_aload_n (pc := 219) dL_law__219 rfl ?_
  refine J_iload (pc := 220) dL_law__220 rfl ?_
  refine J_iconst (pc := 222) (v := 2) dL_law__222 (by decide) ?_
  refine J_iadd (pc := 223) dL_law__223 ?_
  refine J_sil (pc := 224) (q := 9 * j + 2) dL_law__224 (nI_add _ 2) (by omega) (by omega) ?_
  refine J_aload_n (pc := 225) dL_law__225 rfl ?_
  refine J_iload (pc := 226) dL_law__226 rfl ?_
  refine J_iconst (pc := 228) (v := 3) dL_law__228 (by decide) ?_
  refine J_iadd (pc := 229) dL_law__229 ?_
  refine J_sil (pc := 230) (q := 9 * j + 3) dL_law__230 (nI_add _ 3) (by omega) (by omega) ?_
  refine J_aload_n (pc := 231) dL_law__231 rfl ?_
  refine J_iload (pc := 232) dL_law__232 rfl ?_
  refine J_iconst (pc := 234) (v := 4) dL_law__234 (by decide) ?_
  refine J_iadd (pc := 235) dL_law__235 ?_
  refine J_sil (pc := 236) (q := 9 * j + 4) dL_law__236 (nI_add _ 4) (by omega) (by omega) ?_
  refine J_aload_n (pc := 237) dL_law__237 rfl ?_
  refine J_iload (pc := 238) dL_law__238 rfl ?_
  refine J_iconst (pc := 240) (v := 5) dL_law__240 (by decide) ?_
  refine J_iadd (pc := 241) dL_law__241 ?_
  refine J_sil (pc := 242) (q := 9 * j + 5) dL_law__242 (nI_add _ 5) (by omega) (by omega) ?_
  refine J_cvI (pc := 243) (N := mX10_feed) dL_law__243 ml_L_111 cf_X10_feed cv_X10_feed hC rfl rfl (Nat.le_of_ble_eq_true rfl) hd1 (rv_of (ci := 10) rfl rfl rfl) (fun x X hP => ?_)
  refine J_aload_n (pc := 246) dL_law__246 rfl ?_
  refine J_aload_n (pc := 247) dL_law__247 rfl ?_
  refine J_iload (pc := 248) dL_law__248 rfl ?_
  refine J_iconst (pc := 250) (v := 1) dL_law__250 (by decide) ?_
  refine J_iadd (pc := 251) dL_law__251 ?_
  refine J_sil (pc := 252) (q := 9 * j + 1) dL_law__252 (nI_add _ 1) (by omega) (by omega) ?_
  refine J_aload_n (pc := 253) dL_law__253 rfl ?_
  refine J_iload (pc := 254) dL_law__254 rfl ?_
  refine J_iconst (pc := 256) (v := 2) dL_law__256 (by decide) ?_
  refine J_iadd (pc := 257) dL_law__257 ?_
  refine J_sil (pc := 258) (q := 9 * j + 2) dL_law__258 (nI_add _ 2) (by omega) (by omega) ?_
  refine J_aload_n (pc := 259) dL_law__259 rfl ?_
  refine J_iload (pc := 260) dL_law__260 rfl ?_
  refine J_iconst (pc := 262) (v := 3) dL_law__262 (by decide) ?_
  refine J_iadd (pc := 263) dL_law__263 ?_
  refine J_sil (pc := 264) (q := 9 * j + 3) dL_law__264 (nI_add _ 3) (by omega) (by omega) ?_
  refine J_aload_n (pc := 265) dL_law__265 rfl ?_
  refine J_iload (pc := 266) dL_law__266 rfl ?_
  refine J_iconst (pc := 268) (v := 4) dL_law__268 (by decide) ?_
  refine J_iadd (pc := 269) dL_law__269 ?_
  refine J_sil (pc := 270) (q := 9 * j + 4) dL_law__270 (nI_add _ 4) (by omega) (by omega) ?_
  refine J_aload_n (pc := 271) dL_law__271 rfl ?_
  refine J_iload (pc := 272) dL_law__272 rfl ?_
  refine J_iconst (pc := 274) (v := 5) dL_law__274 (by decide) ?_
  refine J_iadd (pc := 275) dL_law__275 ?_
  refine J_sil (pc := 276) (q := 9 * j + 5) dL_law__276 (nI_add _ 5) (by omega) (by omega) ?_
  refine J_cvI (pc := 277) (N := mX11_feed) dL_law__277 ml_L_114 cf_X11_feed cv_X11_feed (hM _ _ hP) rfl rfl (Nat.le_of_ble_eq_true rfl) hd2 (rv_of (ci := 11) rfl rfl rfl) (fun y Y hY => ?_)
  obtain ⟨hxy, hI⟩ := hY
  refine J_icmp_eq (pc := 280) (tgt := 2409) dL_law__280 (by decide) (fun _ => ?_) (fun c9 => absurd hxy c9)
  exact J_forget (pre5 _) (J_mono (Q' := LQ) (kc' := n) (ks' := 6 * n) (by omega) (by omega) (hend _ _ hI))
theorem lw_house {g : Gp} {INV : Sx → Prop} {S : Sx} {j n sz : Nat} (hL : gV g 11 ≤ 4608) (hj : 9 * j + 9 ≤ gV g 11) (H : SW g INV mL_house hL_house mX11_house wI [.int (xsG g (9 * j + 1))] S) (hend : ∀ S' sz', INV S' → J g mLW 60 [] 2409 (l5 j) [] (hs S') sz' n (6 * n) LQ) : J g mLW 60 [] 285 (l8 j) [] (hs S) sz (n + 1) (6 * (n + 1)) LQ := by
  obtain ⟨d2, P, hd2, hC, hM⟩ := H
  refine J_aload_n (pc := 285) dL_law__285 rfl ?_
  refine J_aload_n (pc := 286) dL_law__286 rfl ?_
  refine J_iload (pc := 287) dL_law__287 rfl ?_
  refine J_iconst (pc := 289) (v := 1) dL_law__289 (by decide) ?_
  refine J_iadd (pc := 290) dL_law__290 ?_
  refine J_sil (pc := 291) (q := 9 * j + 1) dL_law__291 (nI_add _ 1) (by omega) (by omega) ?_
  refine J_aload_n (pc := 292) dL_law__292 rfl ?_
  refine J_csR (pc := 293) (N := mL_house) dL_law__293 ml_L_115 cfw_L_house cs_L_house hC rfl rfl (Nat.le_of_ble_eq_true rfl) (by decide) (by omega) (by omega) (fun k X sz1 hP _ => ?_)
  refine J_istore (pc := 296) dL_law__296 (by decide) rfl ?_
  refine J_aload_n (pc := 298) dL_law__298 rfl ?_
  refine J_aload_n (pc := 299) dL_law__299 rfl ?_
  refine J_iload (pc := 300) dL_law__300 rfl ?_
  refine J_iconst (pc := 302) (v := 1) dL_law__302 (by decide) ?_
  refine J_iadd (pc := 303) dL_law__303 ?_
  refine J_sil (pc := 304) (q := 9 * j + 1) dL_law__304 (nI_add _ 1) (by omega) (by omega) ?_
  refine J_cvI (pc := 305) (N := mX11_house) dL_law__305 ml_L_120 cf_X11_house cv_X11_house (hM _ _ hP) rfl rfl (Nat.le_of_ble_eq_true rfl) hd2 (rv_of (ci := 11) rfl rfl rfl) (fun y Y hY => ?_)
  refine J_istore (pc := 308) dL_law__308 (by decide) rfl ?_
  refine J_aload_n (pc := 310) dL_law__310 rfl ?_
  refine J_cvr (pc := 311) (N := mX11_thrown) dL_law__311 ml_L_121 cf_X11_thrown cv_X11_thrown r_X11_thrown rfl rfl (Nat.le_of_ble_eq_true rfl) (by decide) (rv_of (ci := 11) rfl rfl rfl) ?_
  obtain ⟨hk, hv, hI⟩ := hY
  refine J_t1 hk ?_
  refine J_iload (pc := 314) dL_law__314 rfl ?_
  refine J_icmp_eq (pc := 316) (tgt := 321) dL_law__316 (by decide) (fun _ => ?_) (fun c9 => absurd rfl c9)
  refine J_iload (pc := 321) dL_law__321 rfl ?_
  refine J_if_ne (pc := 323) (tgt := 338) dL_law__323 (by decide) (fun c9 => ?_) (fun c9 => ?_)
  · refine J_goto (pc := 338) (tgt := 2409) dL_law__338 (by decide) ?_
    exact J_forget (pre5 _) (J_mono (Q' := LQ) (kc' := n) (ks' := 6 * n) (by omega) (by omega) (hend _ _ hI))
  · have hv0 := hv c9
    refine J_aload_n (pc := 326) dL_law__326 rfl ?_
    refine J_iconst (pc := 327) (v := 0) dL_law__327 (by decide) ?_
    refine J_llS (pc := 328) dL_law__328 ?_
    refine J_iload (pc := 329) dL_law__329 rfl ?_
    refine J_i2l (pc := 331) dL_law__331 ?_
    refine J_lcmp (pc := 332) dL_law__332 ?_
    refine J_if_eq (pc := 333) (tgt := 338) dL_law__333 (by decide) (fun _ => ?_) (fun c8 => absurd (lcz hv0) c8)
    refine J_goto (pc := 338) (tgt := 2409) dL_law__338 (by decide) ?_
    exact J_forget (pre5 _) (J_mono (Q' := LQ) (kc' := n) (ks' := 6 * n) (by omega) (by omega) (hend _ _ hI))
theorem lw_law {g : Gp} {INV : Sx → Prop} {S : Sx} {j n sz : Nat} (hL : gV g 11 ≤ 4608) (hj : 9 * j + 9 ≤ gV g 11) (H : SW g INV mL_law hL_law mX11_law wI [.int (xsG g (9 * j + 1))] S) (hend : ∀ S' sz', INV S' → J g mLW 60 [] 2409 (l5 j) [] (hs S') sz' n (6 * n) LQ) : J g mLW 60 [] 341 (l8 j) [] (hs S) sz (n + 1) (6 * (n + 1)) LQ := by
  obtain ⟨d2, P, hd2, hC, hM⟩ := H
  refine J_aload_n (pc := 341) dL_law__341 rfl ?_
  refine J_aload_n (pc := 342) dL_law__342 rfl ?_
  refine J_iload (pc := 343) dL_law__343 rfl ?_
  refine J_iconst (pc := 345) (v := 1) dL_law__345 (by decide) ?_
  refine J_iadd (pc := 346) dL_law__346 ?_
  refine J_sil (pc := 347) (q := 9 * j + 1) dL_law__347 (nI_add _ 1) (by omega) (by omega) ?_
  refine J_aload_n (pc := 348) dL_law__348 rfl ?_
  refine J_csR (pc := 349) (N := mL_law) dL_law__349 ml_L_125 cfw_L_law cs_L_law hC rfl rfl (Nat.le_of_ble_eq_true rfl) (by decide) (by omega) (by omega) (fun k X sz1 hP _ => ?_)
  refine J_istore (pc := 352) dL_law__352 (by decide) rfl ?_
  refine J_aload_n (pc := 354) dL_law__354 rfl ?_
  refine J_aload_n (pc := 355) dL_law__355 rfl ?_
  refine J_iload (pc := 356) dL_law__356 rfl ?_
  refine J_iconst (pc := 358) (v := 1) dL_law__358 (by decide) ?_
  refine J_iadd (pc := 359) dL_law__359 ?_
  refine J_sil (pc := 360) (q := 9 * j + 1) dL_law__360 (nI_add _ 1) (by omega) (by omega) ?_
  refine J_cvI (pc := 361) (N := mX11_law) dL_law__361 ml_L_127 cf_X11_law cv_X11_law (hM _ _ hP) rfl rfl (Nat.le_of_ble_eq_true rfl) hd2 (rv_of (ci := 11) rfl rfl rfl) (fun y Y hY => ?_)
  refine J_istore (pc := 364) dL_law__364 (by decide) rfl ?_
  refine J_aload_n (pc := 366) dL_law__366 rfl ?_
  refine J_cvr (pc := 367) (N := mX11_thrown) dL_law__367 ml_L_121 cf_X11_thrown cv_X11_thrown r_X11_thrown rfl rfl (Nat.le_of_ble_eq_true rfl) (by decide) (rv_of (ci := 11) rfl rfl rfl) ?_
  obtain ⟨hk, hv, hI⟩ := hY
  refine J_t1 hk ?_
  refine J_iload (pc := 370) dL_law__370 rfl ?_
  refine J_icmp_eq (pc := 372) (tgt := 377) dL_law__372 (by decide) (fun _ => ?_) (fun c9 => absurd rfl c9)
  refine J_iload (pc := 377) dL_law__377 rfl ?_
  refine J_if_ne (pc := 379) (tgt := 394) dL_law__379 (by decide) (fun c9 => ?_) (fun c9 => ?_)
  · refine J_goto (pc := 394) (tgt := 2409) dL_law__394 (by decide) ?_
    exact J_forget (pre5 _) (J_mono (Q' := LQ) (kc' := n) (ks' := 6 * n) (by omega) (by omega) (hend _ _ hI))
  · have hv0 := hv c9
    refine J_aload_n (pc := 382) dL_law__382 rfl ?_
    refine J_iconst (pc := 383) (v := 0) dL_law__383 (by decide) ?_
    refine J_llS (pc := 384) dL_law__384 ?_
    refine J_iload (pc := 385) dL_law__385 rfl ?_
    refine J_i2l (pc := 387) dL_law__387 ?_
    refine J_lcmp (pc := 388) dL_law__388 ?_
    refine J_if_eq (pc := 389) (tgt := 394) dL_law__389 (by decide) (fun _ => ?_) (fun c8 => absurd (lcz hv0) c8)
    refine J_goto (pc := 394) (tgt := 2409) dL_law__394 (by decide) ?_
    exact J_forget (pre5 _) (J_mono (Q' := LQ) (kc' := n) (ks' := 6 * n) (by omega) (by omega) (hend _ _ hI))
theorem lw_work {g : Gp} {INV : Sx → Prop} {S : Sx} {j n sz : Nat} (hL : gV g 11 ≤ 4608) (hj : 9 * j + 9 ≤ gV g 11) (H : SW g INV mL_work hL_work mX11_work wI [.int (xsG g (9 * j + 1))] S) (hend : ∀ S' sz', INV S' → J g mLW 60 [] 2409 (l5 j) [] (hs S') sz' n (6 * n) LQ) : J g mLW 60 [] 397 (l8 j) [] (hs S) sz (n + 1) (6 * (n + 1)) LQ := by
  obtain ⟨d2, P, hd2, hC, hM⟩ := H
  refine J_aload_n (pc := 397) dL_law__397 rfl ?_
  refine J_aload_n (pc := 398) dL_law__398 rfl ?_
  refine J_iload (pc := 399) dL_law__399 rfl ?_
  refine J_iconst (pc := 401) (v := 1) dL_law__401 (by decide) ?_
  refine J_iadd (pc := 402) dL_law__402 ?_
  refine J_sil (pc := 403) (q := 9 * j + 1) dL_law__403 (nI_add _ 1) (by omega) (by omega) ?_
  refine J_aload_n (pc := 404) dL_law__404 rfl ?_
  refine J_csR (pc := 405) (N := mL_work) dL_law__405 ml_L_128 cfw_L_work cs_L_work hC rfl rfl (Nat.le_of_ble_eq_true rfl) (by decide) (by omega) (by omega) (fun k X sz1 hP _ => ?_)
  refine J_istore (pc := 408) dL_law__408 (by decide) rfl ?_
  refine J_aload_n (pc := 410) dL_law__410 rfl ?_
  refine J_aload_n (pc := 411) dL_law__411 rfl ?_
  refine J_iload (pc := 412) dL_law__412 rfl ?_
  refine J_iconst (pc := 414) (v := 1) dL_law__414 (by decide) ?_
  refine J_iadd (pc := 415) dL_law__415 ?_
  refine J_sil (pc := 416) (q := 9 * j + 1) dL_law__416 (nI_add _ 1) (by omega) (by omega) ?_
  refine J_cvI (pc := 417) (N := mX11_work) dL_law__417 ml_L_130 cf_X11_work cv_X11_work (hM _ _ hP) rfl rfl (Nat.le_of_ble_eq_true rfl) hd2 (rv_of (ci := 11) rfl rfl rfl) (fun y Y hY => ?_)
  refine J_istore (pc := 420) dL_law__420 (by decide) rfl ?_
  refine J_aload_n (pc := 422) dL_law__422 rfl ?_
  refine J_cvr (pc := 423) (N := mX11_thrown) dL_law__423 ml_L_121 cf_X11_thrown cv_X11_thrown r_X11_thrown rfl rfl (Nat.le_of_ble_eq_true rfl) (by decide) (rv_of (ci := 11) rfl rfl rfl) ?_
  obtain ⟨hk, hv, hI⟩ := hY
  refine J_t1 hk ?_
  refine J_iload (pc := 426) dL_law__426 rfl ?_
  refine J_icmp_eq (pc := 428) (tgt := 433) dL_law__428 (by decide) (fun _ => ?_) (fun c9 => absurd rfl c9)
  refine J_iload (pc := 433) dL_law__433 rfl ?_
  refine J_if_ne (pc := 435) (tgt := 450) dL_law__435 (by decide) (fun c9 => ?_) (fun c9 => ?_)
  · refine J_goto (pc := 450) (tgt := 2409) dL_law__450 (by decide) ?_
    exact J_forget (pre5 _) (J_mono (Q' := LQ) (kc' := n) (ks' := 6 * n) (by omega) (by omega) (hend _ _ hI))
  · have hv0 := hv c9
    refine J_aload_n (pc := 438) dL_law__438 rfl ?_
    refine J_iconst (pc := 439) (v := 0) dL_law__439 (by decide) ?_
    refine J_llS (pc := 440) dL_law__440 ?_
    refine J_iload (pc := 441) dL_law__441 rfl ?_
    refine J_i2l (pc := 443) dL_law__443 ?_
    refine J_lcmp (pc := 444) dL_law__444 ?_
    refine J_if_eq (pc := 445) (tgt := 450) dL_law__445 (by decide) (fun _ => ?_) (fun c8 => absurd (lcz hv0) c8)
    refine J_goto (pc := 450) (tgt := 2409) dL_law__450 (by decide) ?_
    exact J_forget (pre5 _) (J_mono (Q' := LQ) (kc' := n) (ks' := 6 * n) (by omega) (by omega) (hend _ _ hI))
theorem lw_seen {g : Gp} {INV : Sx → Prop} {S : Sx} {j n sz : Nat} (hL : gV g 11 ≤ 4608) (hj : 9 * j + 9 ≤ gV g 11) (H : SW g INV mL_seen hL_seen mX11_seen wI [.int (xsG g (9 * j + 1))] S) (hend : ∀ S' sz', INV S' → J g mLW 60 [] 2409 (l5 j) [] (hs S') sz' n (6 * n) LQ) : J g mLW 60 [] 453 (l8 j) [] (hs S) sz (n + 1) (6 * (n + 1)) LQ := by
  obtain ⟨d2, P, hd2, hC, hM⟩ := H
  refine J_aload_n (pc := 453) dL_law__453 rfl ?_
  refine J_aload_n (pc := 454) dL_law__454 rfl ?_
  refine J_iload (pc := 455) dL_law__455 rfl ?_
  refine J_iconst (pc := 457) (v := 1) dL_law__457 (by decide) ?_
  refine J_iadd (pc := 458) dL_law__458 ?_
  refine J_sil (pc := 459) (q := 9 * j + 1) dL_law__459 (nI_add _ 1) (by omega) (by omega) ?_
  refine J_aload_n (pc := 460) dL_law__460 rfl ?_
  refine J_csR (pc := 461) (N := mL_seen) dL_law__461 ml_L_131 cfw_L_seen cs_L_seen hC rfl rfl (Nat.le_of_ble_eq_true rfl) (by decide) (by omega) (by omega) (fun k X sz1 hP _ => ?_)
  refine J_istore (pc := 464) dL_law__464 (by decide) rfl ?_
  refine J_aload_n (pc := 466) dL_law__466 rfl ?_
  refine J_aload_n (pc := 467) dL_law__467 rfl ?_
  refine J_iload (pc := 468) dL_law__468 rfl ?_
  refine J_iconst (pc := 470) (v := 1) dL_law__470 (by decide) ?_
  refine J_iadd (pc := 471) dL_law__471 ?_
  refine J_sil (pc := 472) (q := 9 * j + 1) dL_law__472 (nI_add _ 1) (by omega) (by omega) ?_
  refine J_cvI (pc := 473) (N := mX11_seen) dL_law__473 ml_L_133 cf_X11_seen cv_X11_seen (hM _ _ hP) rfl rfl (Nat.le_of_ble_eq_true rfl) hd2 (rv_of (ci := 11) rfl rfl rfl) (fun y Y hY => ?_)
  refine J_istore (pc := 476) dL_law__476 (by decide) rfl ?_
  refine J_aload_n (pc := 478) dL_law__478 rfl ?_
  refine J_cvr (pc := 479) (N := mX11_thrown) dL_law__479 ml_L_121 cf_X11_thrown cv_X11_thrown r_X11_thrown rfl rfl (Nat.le_of_ble_eq_true rfl) (by decide) (rv_of (ci := 11) rfl rfl rfl) ?_
  obtain ⟨hk, hv, hI⟩ := hY
  refine J_t1 hk ?_
  refine J_iload (pc := 482) dL_law__482 rfl ?_
  refine J_icmp_eq (pc := 484) (tgt := 489) dL_law__484 (by decide) (fun _ => ?_) (fun c9 => absurd rfl c9)
  refine J_iload (pc := 489) dL_law__489 rfl ?_
  refine J_if_ne (pc := 491) (tgt := 506) dL_law__491 (by decide) (fun c9 => ?_) (fun c9 => ?_)
  · refine J_goto (pc := 506) (tgt := 2409) dL_law__506 (by decide) ?_
    exact J_forget (pre5 _) (J_mono (Q' := LQ) (kc' := n) (ks' := 6 * n) (by omega) (by omega) (hend _ _ hI))
  · have hv0 := hv c9
    refine J_aload_n (pc := 494) dL_law__494 rfl ?_
    refine J_iconst (pc := 495) (v := 0) dL_law__495 (by decide) ?_
    refine J_llS (pc := 496) dL_law__496 ?_
    refine J_iload (pc := 497) dL_law__497 rfl ?_
    refine J_i2l (pc := 499) dL_law__499 ?_
    refine J_lcmp (pc := 500) dL_law__500 ?_
    refine J_if_eq (pc := 501) (tgt := 506) dL_law__501 (by decide) (fun _ => ?_) (fun c8 => absurd (lcz hv0) c8)
    refine J_goto (pc := 506) (tgt := 2409) dL_law__506 (by decide) ?_
    exact J_forget (pre5 _) (J_mono (Q' := LQ) (kc' := n) (ks' := 6 * n) (by omega) (by omega) (hend _ _ hI))
theorem lw_fault {g : Gp} {INV : Sx → Prop} {S : Sx} {j n sz : Nat} (hL : gV g 11 ≤ 4608) (hj : 9 * j + 9 ≤ gV g 11) (H : SP g INV mX10_fault mX11_fault [] S) (hend : ∀ S' sz', INV S' → J g mLW 60 [] 2409 (l5 j) [] (hs S') sz' n (6 * n) LQ) : J g mLW 60 [] 509 (l8 j) [] (hs S) sz (n + 1) (6 * (n + 1)) LQ := by
  obtain ⟨d1, d2, P, hd1, hd2, hC, hM⟩ := H
  refine J_aload_n (pc := 509) dL_law__509 rfl ?_
  refine J_cvI (pc := 510) (N := mX10_fault) dL_law__510 ml_L_134 cf_X10_fault cv_X10_fault hC rfl rfl (Nat.le_of_ble_eq_true rfl) hd1 (rv_of (ci := 10) rfl rfl rfl) (fun x X hP => ?_)
  refine J_aload_n (pc := 513) dL_law__513 rfl ?_
  refine J_cvI (pc := 514) (N := mX11_fault) dL_law__514 ml_L_137 cf_X11_fault cv_X11_fault (hM _ _ hP) rfl rfl (Nat.le_of_ble_eq_true rfl) hd2 (rv_of (ci := 11) rfl rfl rfl) (fun y Y hY => ?_)
  obtain ⟨hxy, hI⟩ := hY
  refine J_icmp_eq (pc := 517) (tgt := 2409) dL_law__517 (by decide) (fun _ => ?_) (fun c9 => absurd hxy c9)
  exact J_forget (pre5 _) (J_mono (Q' := LQ) (kc' := n) (ks' := 6 * n) (by omega) (by omega) (hend _ _ hI))
theorem lw_undo {g : Gp} {INV : Sx → Prop} {S : Sx} {j n sz : Nat} (hL : gV g 11 ≤ 4608) (hj : 9 * j + 9 ≤ gV g 11) (H : SP g INV mX10_undo mX11_undo [] S) (hend : ∀ S' sz', INV S' → J g mLW 60 [] 2409 (l5 j) [] (hs S') sz' n (6 * n) LQ) : J g mLW 60 [] 522 (l8 j) [] (hs S) sz (n + 1) (6 * (n + 1)) LQ := by
  obtain ⟨d1, d2, P, hd1, hd2, hC, hM⟩ := H
  refine J_aload_n (pc := 522) dL_law__522 rfl ?_
  refine J_cvI (pc := 523) (N := mX10_undo) dL_law__523 ml_L_138 cf_X10_undo cv_X10_undo hC rfl rfl (Nat.le_of_ble_eq_true rfl) hd1 (rv_of (ci := 10) rfl rfl rfl) (fun x X hP => ?_)
  refine J_aload_n (pc := 526) dL_law__526 rfl ?_
  refine J_cvI (pc := 527) (N := mX11_undo) dL_law__527 ml_L_141 cf_X11_undo cv_X11_undo (hM _ _ hP) rfl rfl (Nat.le_of_ble_eq_true rfl) hd2 (rv_of (ci := 11) rfl rfl rfl) (fun y Y hY => ?_)
  obtain ⟨hxy, hI⟩ := hY
  refine J_icmp_eq (pc := 530) (tgt := 2409) dL_law__530 (by decide) (fun _ => ?_) (fun c9 => absurd hxy c9)
  exact J_forget (pre5 _) (J_mono (Q' := LQ) (kc' := n) (ks' := 6 * n) (by omega) (by omega) (hend _ _ hI))
theorem lw_told {g : Gp} {INV : Sx → Prop} {S : Sx} {j n sz : Nat} (hL : gV g 11 ≤ 4608) (hj : 9 * j + 9 ≤ gV g 11) (H : SW g INV mL_told hL_told mX11_told wI [.int (xsG g (9 * j + 1))] S) (hend : ∀ S' sz', INV S' → J g mLW 60 [] 2409 (l5 j) [] (hs S') sz' n (6 * n) LQ) : J g mLW 60 [] 535 (l8 j) [] (hs S) sz (n + 1) (6 * (n + 1)) LQ := by
  obtain ⟨d2, P, hd2, hC, hM⟩ := H
  refine J_aload_n (pc := 535) dL_law__535 rfl ?_
  refine J_aload_n (pc := 536) dL_law__536 rfl ?_
  refine J_iload (pc := 537) dL_law__537 rfl ?_
  refine J_iconst (pc := 539) (v := 1) dL_law__539 (by decide) ?_
  refine J_iadd (pc := 540) dL_law__540 ?_
  refine J_sil (pc := 541) (q := 9 * j + 1) dL_law__541 (nI_add _ 1) (by omega) (by omega) ?_
  refine J_aload_n (pc := 542) dL_law__542 rfl ?_
  refine J_csR (pc := 543) (N := mL_told) dL_law__543 ml_L_142 cfw_L_told cs_L_told hC rfl rfl (Nat.le_of_ble_eq_true rfl) (by decide) (by omega) (by omega) (fun k X sz1 hP _ => ?_)
  refine J_istore (pc := 546) dL_law__546 (by decide) rfl ?_
  refine J_aload_n (pc := 548) dL_law__548 rfl ?_
  refine J_aload_n (pc := 549) dL_law__549 rfl ?_
  refine J_iload (pc := 550) dL_law__550 rfl ?_
  refine J_iconst (pc := 552) (v := 1) dL_law__552 (by decide) ?_
  refine J_iadd (pc := 553) dL_law__553 ?_
  refine J_sil (pc := 554) (q := 9 * j + 1) dL_law__554 (nI_add _ 1) (by omega) (by omega) ?_
  refine J_cvI (pc := 555) (N := mX11_told) dL_law__555 ml_L_144 cf_X11_told cv_X11_told (hM _ _ hP) rfl rfl (Nat.le_of_ble_eq_true rfl) hd2 (rv_of (ci := 11) rfl rfl rfl) (fun y Y hY => ?_)
  refine J_istore (pc := 558) dL_law__558 (by decide) rfl ?_
  refine J_aload_n (pc := 560) dL_law__560 rfl ?_
  refine J_cvr (pc := 561) (N := mX11_thrown) dL_law__561 ml_L_121 cf_X11_thrown cv_X11_thrown r_X11_thrown rfl rfl (Nat.le_of_ble_eq_true rfl) (by decide) (rv_of (ci := 11) rfl rfl rfl) ?_
  obtain ⟨hk, hv, hI⟩ := hY
  refine J_t1 hk ?_
  refine J_iload (pc := 564) dL_law__564 rfl ?_
  refine J_icmp_eq (pc := 566) (tgt := 571) dL_law__566 (by decide) (fun _ => ?_) (fun c9 => absurd rfl c9)
  refine J_iload (pc := 571) dL_law__571 rfl ?_
  refine J_if_ne (pc := 573) (tgt := 588) dL_law__573 (by decide) (fun c9 => ?_) (fun c9 => ?_)
  · refine J_goto (pc := 588) (tgt := 2409) dL_law__588 (by decide) ?_
    exact J_forget (pre5 _) (J_mono (Q' := LQ) (kc' := n) (ks' := 6 * n) (by omega) (by omega) (hend _ _ hI))
  · have hv0 := hv c9
    refine J_aload_n (pc := 576) dL_law__576 rfl ?_
    refine J_iconst (pc := 577) (v := 0) dL_law__577 (by decide) ?_
    refine J_llS (pc := 578) dL_law__578 ?_
    refine J_iload (pc := 579) dL_law__579 rfl ?_
    refine J_i2l (pc := 581) dL_law__581 ?_
    refine J_lcmp (pc := 582) dL_law__582 ?_
    refine J_if_eq (pc := 583) (tgt := 588) dL_law__583 (by decide) (fun _ => ?_) (fun c8 => absurd (lcz hv0) c8)
    refine J_goto (pc := 588) (tgt := 2409) dL_law__588 (by decide) ?_
    exact J_forget (pre5 _) (J_mono (Q' := LQ) (kc' := n) (ks' := 6 * n) (by omega) (by omega) (hend _ _ hI))
theorem lw_sister {g : Gp} {INV : Sx → Prop} {S : Sx} {j n sz : Nat} (hL : gV g 11 ≤ 4608) (hj : 9 * j + 9 ≤ gV g 11) (H : SW g INV mL_sister hL_sister mX11_sister wI [.int (xsG g (9 * j + 1)), .int (xsG g (9 * j + 2))] S) (hend : ∀ S' sz', INV S' → J g mLW 60 [] 2409 (l5 j) [] (hs S') sz' n (6 * n) LQ) : J g mLW 60 [] 591 (l8 j) [] (hs S) sz (n + 1) (6 * (n + 1)) LQ := by
  obtain ⟨d2, P, hd2, hC, hM⟩ := H
  refine J_aload_n (pc := 591) dL_law__591 rfl ?_
  refine J_aload_n (pc := 592) dL_law__592 rfl ?_
  refine J_iload (pc := 593) dL_law__593 rfl ?_
  refine J_iconst (pc := 595) (v := 1) dL_law__595 (by decide) ?_
  refine J_iadd (pc := 596) dL_law__596 ?_
  refine J_sil (pc := 597) (q := 9 * j + 1) dL_law__597 (nI_add _ 1) (by omega) (by omega) ?_
  refine J_aload_n (pc := 598) dL_law__598 rfl ?_
  refine J_iload (pc := 599) dL_law__599 rfl ?_
  refine J_iconst (pc := 601) (v := 2) dL_law__601 (by decide) ?_
  refine J_iadd (pc := 602) dL_law__602 ?_
  refine J_sil (pc := 603) (q := 9 * j + 2) dL_law__603 (nI_add _ 2) (by omega) (by omega) ?_
  refine J_aload_n (pc := 604) dL_law__604 rfl ?_
  refine J_csR (pc := 605) (N := mL_sister) dL_law__605 ml_L_145 cfw_L_sister cs_L_sister hC rfl rfl (Nat.le_of_ble_eq_true rfl) (by decide) (by omega) (by omega) (fun k X sz1 hP _ => ?_)
  refine J_istore (pc := 608) dL_law__608 (by decide) rfl ?_
  refine J_aload_n (pc := 610) dL_law__610 rfl ?_
  refine J_aload_n (pc := 611) dL_law__611 rfl ?_
  refine J_iload (pc := 612) dL_law__612 rfl ?_
  refine J_iconst (pc := 614) (v := 1) dL_law__614 (by decide) ?_
  refine J_iadd (pc := 615) dL_law__615 ?_
  refine J_sil (pc := 616) (q := 9 * j + 1) dL_law__616 (nI_add _ 1) (by omega) (by omega) ?_
  refine J_aload_n (pc := 617) dL_law__617 rfl ?_
  refine J_iload (pc := 618) dL_law__618 rfl ?_
  refine J_iconst (pc := 620) (v := 2) dL_law__620 (by decide) ?_
  refine J_iadd (pc := 621) dL_law__621 ?_
  refine J_sil (pc := 622) (q := 9 * j + 2) dL_law__622 (nI_add _ 2) (by omega) (by omega) ?_
  refine J_cvI (pc := 623) (N := mX11_sister) dL_law__623 ml_L_148 cf_X11_sister cv_X11_sister (hM _ _ hP) rfl rfl (Nat.le_of_ble_eq_true rfl) hd2 (rv_of (ci := 11) rfl rfl rfl) (fun y Y hY => ?_)
  refine J_istore (pc := 626) dL_law__626 (by decide) rfl ?_
  refine J_aload_n (pc := 628) dL_law__628 rfl ?_
  refine J_cvr (pc := 629) (N := mX11_thrown) dL_law__629 ml_L_121 cf_X11_thrown cv_X11_thrown r_X11_thrown rfl rfl (Nat.le_of_ble_eq_true rfl) (by decide) (rv_of (ci := 11) rfl rfl rfl) ?_
  obtain ⟨hk, hv, hI⟩ := hY
  refine J_t1 hk ?_
  refine J_iload (pc := 632) dL_law__632 rfl ?_
  refine J_icmp_eq (pc := 634) (tgt := 639) dL_law__634 (by decide) (fun _ => ?_) (fun c9 => absurd rfl c9)
  refine J_iload (pc := 639) dL_law__639 rfl ?_
  refine J_if_ne (pc := 641) (tgt := 656) dL_law__641 (by decide) (fun c9 => ?_) (fun c9 => ?_)
  · refine J_goto (pc := 656) (tgt := 2409) dL_law__656 (by decide) ?_
    exact J_forget (pre5 _) (J_mono (Q' := LQ) (kc' := n) (ks' := 6 * n) (by omega) (by omega) (hend _ _ hI))
  · have hv0 := hv c9
    refine J_aload_n (pc := 644) dL_law__644 rfl ?_
    refine J_iconst (pc := 645) (v := 0) dL_law__645 (by decide) ?_
    refine J_llS (pc := 646) dL_law__646 ?_
    refine J_iload (pc := 647) dL_law__647 rfl ?_
    refine J_i2l (pc := 649) dL_law__649 ?_
    refine J_lcmp (pc := 650) dL_law__650 ?_
    refine J_if_eq (pc := 651) (tgt := 656) dL_law__651 (by decide) (fun _ => ?_) (fun c8 => absurd (lcz hv0) c8)
    refine J_goto (pc := 656) (tgt := 2409) dL_law__656 (by decide) ?_
    exact J_forget (pre5 _) (J_mono (Q' := LQ) (kc' := n) (ks' := 6 * n) (by omega) (by omega) (hend _ _ hI))
theorem lw_relic {g : Gp} {INV : Sx → Prop} {S : Sx} {j n sz : Nat} (hL : gV g 11 ≤ 4608) (hj : 9 * j + 9 ≤ gV g 11) (H : SW g INV mL_relic hL_relic mX11_relic wI [.int (xsG g (9 * j + 1)), .int (xsG g (9 * j + 2))] S) (hend : ∀ S' sz', INV S' → J g mLW 60 [] 2409 (l5 j) [] (hs S') sz' n (6 * n) LQ) : J g mLW 60 [] 659 (l8 j) [] (hs S) sz (n + 1) (6 * (n + 1)) LQ := by
  obtain ⟨d2, P, hd2, hC, hM⟩ := H
  refine J_aload_n (pc := 659) dL_law__659 rfl ?_
  refine J_aload_n (pc := 660) dL_law__660 rfl ?_
  refine J_iload (pc := 661) dL_law__661 rfl ?_
  refine J_iconst (pc := 663) (v := 1) dL_law__663 (by decide) ?_
  refine J_iadd (pc := 664) dL_law__664 ?_
  refine J_sil (pc := 665) (q := 9 * j + 1) dL_law__665 (nI_add _ 1) (by omega) (by omega) ?_
  refine J_aload_n (pc := 666) dL_law__666 rfl ?_
  refine J_iload (pc := 667) dL_law__667 rfl ?_
  refine J_iconst (pc := 669) (v := 2) dL_law__669 (by decide) ?_
  refine J_iadd (pc := 670) dL_law__670 ?_
  refine J_sil (pc := 671) (q := 9 * j + 2) dL_law__671 (nI_add _ 2) (by omega) (by omega) ?_
  refine J_aload_n (pc := 672) dL_law__672 rfl ?_
  refine J_csR (pc := 673) (N := mL_relic) dL_law__673 ml_L_149 cfw_L_relic cs_L_relic hC rfl rfl (Nat.le_of_ble_eq_true rfl) (by decide) (by omega) (by omega) (fun k X sz1 hP _ => ?_)
  refine J_istore (pc := 676) dL_law__676 (by decide) rfl ?_
  refine J_aload_n (pc := 678) dL_law__678 rfl ?_
  refine J_aload_n (pc := 679) dL_law__679 rfl ?_
  refine J_iload (pc := 680) dL_law__680 rfl ?_
  refine J_iconst (pc := 682) (v := 1) dL_law__682 (by decide) ?_
  refine J_iadd (pc := 683) dL_law__683 ?_
  refine J_sil (pc := 684) (q := 9 * j + 1) dL_law__684 (nI_add _ 1) (by omega) (by omega) ?_
  refine J_aload_n (pc := 685) dL_law__685 rfl ?_
  refine J_iload (pc := 686) dL_law__686 rfl ?_
  refine J_iconst (pc := 688) (v := 2) dL_law__688 (by decide) ?_
  refine J_iadd (pc := 689) dL_law__689 ?_
  refine J_sil (pc := 690) (q := 9 * j + 2) dL_law__690 (nI_add _ 2) (by omega) (by omega) ?_
  refine J_cvI (pc := 691) (N := mX11_relic) dL_law__691 ml_L_151 cf_X11_relic cv_X11_relic (hM _ _ hP) rfl rfl (Nat.le_of_ble_eq_true rfl) hd2 (rv_of (ci := 11) rfl rfl rfl) (fun y Y hY => ?_)
  refine J_istore (pc := 694) dL_law__694 (by decide) rfl ?_
  refine J_aload_n (pc := 696) dL_law__696 rfl ?_
  refine J_cvr (pc := 697) (N := mX11_thrown) dL_law__697 ml_L_121 cf_X11_thrown cv_X11_thrown r_X11_thrown rfl rfl (Nat.le_of_ble_eq_true rfl) (by decide) (rv_of (ci := 11) rfl rfl rfl) ?_
  obtain ⟨hk, hv, hI⟩ := hY
  refine J_t1 hk ?_
  refine J_iload (pc := 700) dL_law__700 rfl ?_
  refine J_icmp_eq (pc := 702) (tgt := 707) dL_law__702 (by decide) (fun _ => ?_) (fun c9 => absurd rfl c9)
  refine J_iload (pc := 707) dL_law__707 rfl ?_
  refine J_if_ne (pc := 709) (tgt := 724) dL_law__709 (by decide) (fun c9 => ?_) (fun c9 => ?_)
  · refine J_goto (pc := 724) (tgt := 2409) dL_law__724 (by decide) ?_
    exact J_forget (pre5 _) (J_mono (Q' := LQ) (kc' := n) (ks' := 6 * n) (by omega) (by omega) (hend _ _ hI))
  · have hv0 := hv c9
    refine J_aload_n (pc := 712) dL_law__712 rfl ?_
    refine J_iconst (pc := 713) (v := 0) dL_law__713 (by decide) ?_
    refine J_llS (pc := 714) dL_law__714 ?_
    refine J_iload (pc := 715) dL_law__715 rfl ?_
    refine J_i2l (pc := 717) dL_law__717 ?_
    refine J_lcmp (pc := 718) dL_law__718 ?_
    refine J_if_eq (pc := 719) (tgt := 724) dL_law__719 (by decide) (fun _ => ?_) (fun c8 => absurd (lcz hv0) c8)
    refine J_goto (pc := 724) (tgt := 2409) dL_law__724 (by decide) ?_
    exact J_forget (pre5 _) (J_mono (Q' := LQ) (kc' := n) (ks' := 6 * n) (by omega) (by omega) (hend _ _ hI))
theorem lw_pilgrim {g : Gp} {INV : Sx → Prop} {S : Sx} {j n sz : Nat} (hL : gV g 11 ≤ 4608) (hj : 9 * j + 9 ≤ gV g 11) (H : SW g INV mL_pilgrim hL_pilgrim mX11_pilgrim wI [.int (xsG g (9 * j + 1)), .int (xsG g (9 * j + 2))] S) (hend : ∀ S' sz', INV S' → J g mLW 60 [] 2409 (l5 j) [] (hs S') sz' n (6 * n) LQ) : J g mLW 60 [] 727 (l8 j) [] (hs S) sz (n + 1) (6 * (n + 1)) LQ := by
  obtain ⟨d2, P, hd2, hC, hM⟩ := H
  refine J_aload_n (pc := 727) dL_law__727 rfl ?_
  refine J_aload_n (pc := 728) dL_law__728 rfl ?_
  refine J_iload (pc := 729) dL_law__729 rfl ?_
  refine J_iconst (pc := 731) (v := 1) dL_law__731 (by decide) ?_
  refine J_iadd (pc := 732) dL_law__732 ?_
  refine J_sil (pc := 733) (q := 9 * j + 1) dL_law__733 (nI_add _ 1) (by omega) (by omega) ?_
  refine J_aload_n (pc := 734) dL_law__734 rfl ?_
  refine J_iload (pc := 735) dL_law__735 rfl ?_
  refine J_iconst (pc := 737) (v := 2) dL_law__737 (by decide) ?_
  refine J_iadd (pc := 738) dL_law__738 ?_
  refine J_sil (pc := 739) (q := 9 * j + 2) dL_law__739 (nI_add _ 2) (by omega) (by omega) ?_
  refine J_aload_n (pc := 740) dL_law__740 rfl ?_
  refine J_csR (pc := 741) (N := mL_pilgrim) dL_law__741 ml_L_152 cfw_L_pilgrim cs_L_pilgrim hC rfl rfl (Nat.le_of_ble_eq_true rfl) (by decide) (by omega) (by omega) (fun k X sz1 hP _ => ?_)
  refine J_istore (pc := 744) dL_law__744 (by decide) rfl ?_
  refine J_aload_n (pc := 746) dL_law__746 rfl ?_
  refine J_aload_n (pc := 747) dL_law__747 rfl ?_
  refine J_iload (pc := 748) dL_law__748 rfl ?_
  refine J_iconst (pc := 750) (v := 1) dL_law__750 (by decide) ?_
  refine J_iadd (pc := 751) dL_law__751 ?_
  refine J_sil (pc := 752) (q := 9 * j + 1) dL_law__752 (nI_add _ 1) (by omega) (by omega) ?_
  refine J_aload_n (pc := 753) dL_law__753 rfl ?_
  refine J_iload (pc := 754) dL_law__754 rfl ?_
  refine J_iconst (pc := 756) (v := 2) dL_law__756 (by decide) ?_
  refine J_iadd (pc := 757) dL_law__757 ?_
  refine J_sil (pc := 758) (q := 9 * j + 2) dL_law__758 (nI_add _ 2) (by omega) (by omega) ?_
  refine J_cvI (pc := 759) (N := mX11_pilgrim) dL_law__759 ml_L_154 cf_X11_pilgrim cv_X11_pilgrim (hM _ _ hP) rfl rfl (Nat.le_of_ble_eq_true rfl) hd2 (rv_of (ci := 11) rfl rfl rfl) (fun y Y hY => ?_)
  refine J_istore (pc := 762) dL_law__762 (by decide) rfl ?_
  refine J_aload_n (pc := 764) dL_law__764 rfl ?_
  refine J_cvr (pc := 765) (N := mX11_thrown) dL_law__765 ml_L_121 cf_X11_thrown cv_X11_thrown r_X11_thrown rfl rfl (Nat.le_of_ble_eq_true rfl) (by decide) (rv_of (ci := 11) rfl rfl rfl) ?_
  obtain ⟨hk, hv, hI⟩ := hY
  refine J_t1 hk ?_
  refine J_iload (pc := 768) dL_law__768 rfl ?_
  refine J_icmp_eq (pc := 770) (tgt := 775) dL_law__770 (by decide) (fun _ => ?_) (fun c9 => absurd rfl c9)
  refine J_iload (pc := 775) dL_law__775 rfl ?_
  refine J_if_ne (pc := 777) (tgt := 792) dL_law__777 (by decide) (fun c9 => ?_) (fun c9 => ?_)
  · refine J_goto (pc := 792) (tgt := 2409) dL_law__792 (by decide) ?_
    exact J_forget (pre5 _) (J_mono (Q' := LQ) (kc' := n) (ks' := 6 * n) (by omega) (by omega) (hend _ _ hI))
  · have hv0 := hv c9
    refine J_aload_n (pc := 780) dL_law__780 rfl ?_
    refine J_iconst (pc := 781) (v := 0) dL_law__781 (by decide) ?_
    refine J_llS (pc := 782) dL_law__782 ?_
    refine J_iload (pc := 783) dL_law__783 rfl ?_
    refine J_i2l (pc := 785) dL_law__785 ?_
    refine J_lcmp (pc := 786) dL_law__786 ?_
    refine J_if_eq (pc := 787) (tgt := 792) dL_law__787 (by decide) (fun _ => ?_) (fun c8 => absurd (lcz hv0) c8)
    refine J_goto (pc := 792) (tgt := 2409) dL_law__792 (by decide) ?_
    exact J_forget (pre5 _) (J_mono (Q' := LQ) (kc' := n) (ks' := 6 * n) (by omega) (by omega) (hend _ _ hI))
theorem lw_would {g : Gp} {INV : Sx → Prop} {S : Sx} {j n sz : Nat} (hL : gV g 11 ≤ 4608) (hj : 9 * j + 9 ≤ gV g 11) (H : SW g INV mL_would hL_would mX11_would wI [.int (xsG g (9 * j + 1)), .int (xsG g (9 * j + 2)), .int (xsG g (9 * j + 3)), .int (xsG g (9 * j + 4)), .int (xsG g (9 * j + 5)), .int (xsG g (9 * j + 6)), .int (xsG g (9 * j + 7)), .int (xsG g (9 * j + 8))] S) (hend : ∀ S' sz', INV S' → J g mLW 60 [] 2409 (l5 j) [] (hs S') sz' n (6 * n) LQ) : J g mLW 60 [] 795 (l8 j) [] (hs S) sz (n + 1) (6 * (n + 1)) LQ := by
  obtain ⟨d2, P, hd2, hC, hM⟩ := H
  refine J_aload_n (pc := 795) dL_law__795 rfl ?_
  refine J_aload_n (pc := 796) dL_law__796 rfl ?_
  refine J_iload (pc := 797) dL_law__797 rfl ?_
  refine J_iconst (pc := 799) (v := 1) dL_law__799 (by decide) ?_
  refine J_iadd (pc := 800) dL_law__800 ?_
  refine J_sil (pc := 801) (q := 9 * j + 1) dL_law__801 (nI_add _ 1) (by omega) (by omega) ?_
  refine J_aload_n (pc := 802) dL_law__802 rfl ?_
  refine J_iload (pc := 803) dL_law__803 rfl ?_
  refine J_iconst (pc := 805) (v := 2) dL_law__805 (by decide) ?_
  refine J_iadd (pc := 806) dL_law__806 ?_
  refine J_sil (pc := 807) (q := 9 * j + 2) dL_law__807 (nI_add _ 2) (by omega) (by omega) ?_
  refine J_aload_n (pc := 808) dL_law__808 rfl ?_
  refine J_iload (pc := 809) dL_law__809 rfl ?_
  refine J_iconst (pc := 811) (v := 3) dL_law__811 (by decide) ?_
  refine J_iadd (pc := 812) dL_law__812 ?_
  refine J_sil (pc := 813) (q := 9 * j + 3) dL_law__813 (nI_add _ 3) (by omega) (by omega) ?_
  refine J_aload_n (pc := 814) dL_law__814 rfl ?_
  refine J_iload (pc := 815) dL_law__815 rfl ?_
  refine J_iconst (pc := 817) (v := 4) dL_law__817 (by decide) ?_
  refine J_iadd (pc := 818) dL_law__818 ?_
  refine J_sil (pc := 819) (q := 9 * j + 4) dL_law__819 (nI_add _ 4) (by omega) (by omega) ?_
  refine J_aload_n (pc := 820) dL_law__820 rfl ?_
  refine J_iload (pc := 821) dL_law__821 rfl ?_
  refine J_iconst (pc := 823) (v := 5) dL_law__823 (by decide) ?_
  refine J_iadd (pc := 824) dL_law__824 ?_
  refine J_sil (pc := 825) (q := 9 * j + 5) dL_law__825 (nI_add _ 5) (by omega) (by omega) ?_
  refine J_aload_n (pc := 826) dL_law__826 rfl ?_
  refine J_iload (pc := 827) dL_law__827 rfl ?_
  refine J_bipush (pc := 829) (v := 6) dL_law__829 (by decide) ?_
  refine J_iadd (pc := 831) dL_law__831 ?_
  refine J_sil (pc := 832) (q := 9 * j + 6) dL_law__832 (nI_add _ 6) (by omega) (by omega) ?_
  refine J_aload_n (pc := 833) dL_law__833 rfl ?_
  refine J_iload (pc := 834) dL_law__834 rfl ?_
  refine J_bipush (pc := 836) (v := 7) dL_law__836 (by decide) ?_
  refine J_iadd (pc := 838) dL_law__838 ?_
  refine J_sil (pc := 839) (q := 9 * j + 7) dL_law__839 (nI_add _ 7) (by omega) (by omega) ?_
  refine J_aload_n (pc := 840) dL_law__840 rfl ?_
  refine J_iload (pc := 841) dL_law__841 rfl ?_
  refine J_bipush (pc := 843) (v := 8) dL_law__843 (by decide) ?_
  refine J_iadd (pc := 845) dL_law__845 ?_
  refine J_sil (pc := 846) (q := 9 * j + 8) dL_law__846 (nI_add _ 8) (by omega) (by omega) ?_
  refine J_aload_n (pc := 847) dL_law__847 rfl ?_
  refine J_csR (pc := 848) (N := mL_would) dL_law__848 ml_L_155 cfw_L_would cs_L_would hC rfl rfl (Nat.le_of_ble_eq_true rfl) (by decide) (by omega) (by omega) (fun k X sz1 hP _ => ?_)
  refine J_istore (pc := 851) dL_law__851 (by decide) rfl ?_
  refine J_aload_n (pc := 853) dL_law__853 rfl ?_
  refine J_aload_n (pc := 854) dL_law__854 rfl ?_
  refine J_iload (pc := 855) dL_law__855 rfl ?_
  refine J_iconst (pc := 857) (v := 1) dL_law__857 (by decide) ?_
  refine J_iadd (pc := 858) dL_law__858 ?_
  refine J_sil (pc := 859) (q := 9 * j + 1) dL_law__859 (nI_add _ 1) (by omega) (by omega) ?_
  refine J_aload_n (pc := 860) dL_law__860 rfl ?_
  refine J_iload (pc := 861) dL_law__861 rfl ?_
  refine J_iconst (pc := 863) (v := 2) dL_law__863 (by decide) ?_
  refine J_iadd (pc := 864) dL_law__864 ?_
  refine J_sil (pc := 865) (q := 9 * j + 2) dL_law__865 (nI_add _ 2) (by omega) (by omega) ?_
  refine J_aload_n (pc := 866) dL_law__866 rfl ?_
  refine J_iload (pc := 867) dL_law__867 rfl ?_
  refine J_iconst (pc := 869) (v := 3) dL_law__869 (by decide) ?_
  refine J_iadd (pc := 870) dL_law__870 ?_
  refine J_sil (pc := 871) (q := 9 * j + 3) dL_law__871 (nI_add _ 3) (by omega) (by omega) ?_
  refine J_aload_n (pc := 872) dL_law__872 rfl ?_
  refine J_iload (pc := 873) dL_law__873 rfl ?_
  refine J_iconst (pc := 875) (v := 4) dL_law__875 (by decide) ?_
  refine J_iadd (pc := 876) dL_law__876 ?_
  refine J_sil (pc := 877) (q := 9 * j + 4) dL_law__877 (nI_add _ 4) (by omega) (by omega) ?_
  refine J_aload_n (pc := 878) dL_law__878 rfl ?_
  refine J_iload (pc := 879) dL_law__879 rfl ?_
  refine J_iconst (pc := 881) (v := 5) dL_law__881 (by decide) ?_
  refine J_iadd (pc := 882) dL_law__882 ?_
  refine J_sil (pc := 883) (q := 9 * j + 5) dL_law__883 (nI_add _ 5) (by omega) (by omega) ?_
  refine J_aload_n (pc := 884) dL_law__884 rfl ?_
  refine J_iload (pc := 885) dL_law__885 rfl ?_
  refine J_bipush (pc := 887) (v := 6) dL_law__887 (by decide) ?_
  refine J_iadd (pc := 889) dL_law__889 ?_
  refine J_sil (pc := 890) (q := 9 * j + 6) dL_law__890 (nI_add _ 6) (by omega) (by omega) ?_
  refine J_aload_n (pc := 891) dL_law__891 rfl ?_
  refine J_iload (pc := 892) dL_law__892 rfl ?_
  refine J_bipush (pc := 894) (v := 7) dL_law__894 (by decide) ?_
  refine J_iadd (pc := 896) dL_law__896 ?_
  refine J_sil (pc := 897) (q := 9 * j + 7) dL_law__897 (nI_add _ 7) (by omega) (by omega) ?_
  refine J_aload_n (pc := 898) dL_law__898 rfl ?_
  refine J_iload (pc := 899) dL_law__899 rfl ?_
  refine J_bipush (pc := 901) (v := 8) dL_law__901 (by decide) ?_
  refine J_iadd (pc := 903) dL_law__903 ?_
  refine J_sil (pc := 904) (q := 9 * j + 8) dL_law__904 (nI_add _ 8) (by omega) (by omega) ?_
  refine J_cvI (pc := 905) (N := mX11_would) dL_law__905 ml_L_158 cf_X11_would cv_X11_would (hM _ _ hP) rfl rfl (Nat.le_of_ble_eq_true rfl) hd2 (rv_of (ci := 11) rfl rfl rfl) (fun y Y hY => ?_)
  refine J_istore (pc := 908) dL_law__908 (by decide) rfl ?_
  refine J_aload_n (pc := 910) dL_law__910 rfl ?_
  refine J_cvr (pc := 911) (N := mX11_thrown) dL_law__911 ml_L_121 cf_X11_thrown cv_X11_thrown r_X11_thrown rfl rfl (Nat.le_of_ble_eq_true rfl) (by decide) (rv_of (ci := 11) rfl rfl rfl) ?_
  obtain ⟨hk, hv, hI⟩ := hY
  refine J_t1 hk ?_
  refine J_iload (pc := 914) dL_law__914 rfl ?_
  refine J_icmp_eq (pc := 916) (tgt := 921) dL_law__916 (by decide) (fun _ => ?_) (fun c9 => absurd rfl c9)
  refine J_iload (pc := 921) dL_law__921 rfl ?_
  refine J_if_ne (pc := 923) (tgt := 938) dL_law__923 (by decide) (fun c9 => ?_) (fun c9 => ?_)
  · refine J_goto (pc := 938) (tgt := 2409) dL_law__938 (by decide) ?_
    exact J_forget (pre5 _) (J_mono (Q' := LQ) (kc' := n) (ks' := 6 * n) (by omega) (by omega) (hend _ _ hI))
  · have hv0 := hv c9
    refine J_aload_n (pc := 926) dL_law__926 rfl ?_
    refine J_iconst (pc := 927) (v := 0) dL_law__927 (by decide) ?_
    refine J_llS (pc := 928) dL_law__928 ?_
    refine J_iload (pc := 929) dL_law__929 rfl ?_
    refine J_i2l (pc := 931) dL_law__931 ?_
    refine J_lcmp (pc := 932) dL_law__932 ?_
    refine J_if_eq (pc := 933) (tgt := 938) dL_law__933 (by decide) (fun _ => ?_) (fun c8 => absurd (lcz hv0) c8)
    refine J_goto (pc := 938) (tgt := 2409) dL_law__938 (by decide) ?_
    exact J_forget (pre5 _) (J_mono (Q' := LQ) (kc' := n) (ks' := 6 * n) (by omega) (by omega) (hend _ _ hI))
theorem lw_can {g : Gp} {INV : Sx → Prop} {S : Sx} {j n sz : Nat} (hL : gV g 11 ≤ 4608) (hj : 9 * j + 9 ≤ gV g 11) (H : SW g INV mL_can hL_can mX11_can wZ [.int (xsG g (9 * j + 1)), .int (xsG g (9 * j + 2))] S) (hend : ∀ S' sz', INV S' → J g mLW 60 [] 2409 (l5 j) [] (hs S') sz' n (6 * n) LQ) : J g mLW 60 [] 941 (l8 j) [] (hs S) sz (n + 1) (6 * (n + 1)) LQ := by
  obtain ⟨d2, P, hd2, hC, hM⟩ := H
  refine J_aload_n (pc := 941) dL_law__941 rfl ?_
  refine J_aload_n (pc := 942) dL_law__942 rfl ?_
  refine J_iload (pc := 943) dL_law__943 rfl ?_
  refine J_iconst (pc := 945) (v := 1) dL_law__945 (by decide) ?_
  refine J_iadd (pc := 946) dL_law__946 ?_
  refine J_sil (pc := 947) (q := 9 * j + 1) dL_law__947 (nI_add _ 1) (by omega) (by omega) ?_
  refine J_aload_n (pc := 948) dL_law__948 rfl ?_
  refine J_iload (pc := 949) dL_law__949 rfl ?_
  refine J_iconst (pc := 951) (v := 2) dL_law__951 (by decide) ?_
  refine J_iadd (pc := 952) dL_law__952 ?_
  refine J_sil (pc := 953) (q := 9 * j + 2) dL_law__953 (nI_add _ 2) (by omega) (by omega) ?_
  refine J_aload_n (pc := 954) dL_law__954 rfl ?_
  refine J_csR (pc := 955) (N := mL_can) dL_law__955 ml_L_159 cfw_L_can cs_L_can hC rfl rfl (Nat.le_of_ble_eq_true rfl) (by decide) (by omega) (by omega) (fun k X sz1 hP _ => ?_)
  refine J_istore (pc := 958) dL_law__958 (by decide) rfl ?_
  refine J_aload_n (pc := 960) dL_law__960 rfl ?_
  refine J_aload_n (pc := 961) dL_law__961 rfl ?_
  refine J_iload (pc := 962) dL_law__962 rfl ?_
  refine J_iconst (pc := 964) (v := 1) dL_law__964 (by decide) ?_
  refine J_iadd (pc := 965) dL_law__965 ?_
  refine J_sil (pc := 966) (q := 9 * j + 1) dL_law__966 (nI_add _ 1) (by omega) (by omega) ?_
  refine J_aload_n (pc := 967) dL_law__967 rfl ?_
  refine J_iload (pc := 968) dL_law__968 rfl ?_
  refine J_iconst (pc := 970) (v := 2) dL_law__970 (by decide) ?_
  refine J_iadd (pc := 971) dL_law__971 ?_
  refine J_sil (pc := 972) (q := 9 * j + 2) dL_law__972 (nI_add _ 2) (by omega) (by omega) ?_
  refine J_cvI (pc := 973) (N := mX11_can) dL_law__973 ml_L_161 cf_X11_can cv_X11_can (hM _ _ hP) rfl rfl (Nat.le_of_ble_eq_true rfl) hd2 (rv_of (ci := 11) rfl rfl rfl) (fun y Y hY => ?_)
  refine J_istore (pc := 976) dL_law__976 (by decide) rfl ?_
  refine J_aload_n (pc := 978) dL_law__978 rfl ?_
  refine J_cvr (pc := 979) (N := mX11_thrown) dL_law__979 ml_L_121 cf_X11_thrown cv_X11_thrown r_X11_thrown rfl rfl (Nat.le_of_ble_eq_true rfl) (by decide) (rv_of (ci := 11) rfl rfl rfl) ?_
  obtain ⟨hk, hv, hI⟩ := hY
  refine J_t1 hk ?_
  refine J_iload (pc := 982) dL_law__982 rfl ?_
  refine J_icmp_eq (pc := 984) (tgt := 989) dL_law__984 (by decide) (fun _ => ?_) (fun c9 => absurd rfl c9)
  refine J_iload (pc := 989) dL_law__989 rfl ?_
  refine J_if_ne (pc := 991) (tgt := 1013) dL_law__991 (by decide) (fun c9 => ?_) (fun c9 => ?_)
  · refine J_goto (pc := 1013) (tgt := 2409) dL_law__1013 (by decide) ?_
    exact J_forget (pre5 _) (J_mono (Q' := LQ) (kc' := n) (ks' := 6 * n) (by omega) (by omega) (hend _ _ hI))
  · have hv0 := hv c9
    refine J_aload_n (pc := 994) dL_law__994 rfl ?_
    refine J_iconst (pc := 995) (v := 0) dL_law__995 (by decide) ?_
    refine J_llS (pc := 996) dL_law__996 ?_
    refine J_iload (pc := 997) dL_law__997 rfl ?_
    refine J_if_eq (pc := 999) (tgt := 1006) dL_law__999 (by decide) (fun c7 => ?_) (fun c7 => ?_)
    · refine J_lconst (pc := 1006) (v := 0) dL_law__1006 (by decide) ?_
      refine J_lcmp (pc := 1007) dL_law__1007 ?_
      refine J_if_eq (pc := 1008) (tgt := 1013) dL_law__1008 (by decide) (fun _ => ?_) (fun c8 => absurd (lcz (hv0.trans (if_pos c7))) c8)
      refine J_goto (pc := 1013) (tgt := 2409) dL_law__1013 (by decide) ?_
      exact J_forget (pre5 _) (J_mono (Q' := LQ) (kc' := n) (ks' := 6 * n) (by omega) (by omega) (hend _ _ hI))
    · refine J_lconst (pc := 1002) (v := 1) dL_law__1002 (by decide) ?_
      refine J_goto (pc := 1003) (tgt := 1007) dL_law__1003 (by decide) ?_
      refine J_lcmp (pc := 1007) dL_law__1007 ?_
      refine J_if_eq (pc := 1008) (tgt := 1013) dL_law__1008 (by decide) (fun _ => ?_) (fun c8 => absurd (lcz (hv0.trans (if_neg c7))) c8)
      refine J_goto (pc := 1013) (tgt := 2409) dL_law__1013 (by decide) ?_
      exact J_forget (pre5 _) (J_mono (Q' := LQ) (kc' := n) (ks' := 6 * n) (by omega) (by omega) (hend _ _ hI))
theorem lw_when {g : Gp} {INV : Sx → Prop} {S : Sx} {j n sz : Nat} (hL : gV g 11 ≤ 4608) (hj : 9 * j + 9 ≤ gV g 11) (H : SW g INV mL_when hL_when mX11_when wI [.int (xsG g (9 * j + 1)), .int (xsG g (9 * j + 2))] S) (hend : ∀ S' sz', INV S' → J g mLW 60 [] 2409 (l5 j) [] (hs S') sz' n (6 * n) LQ) : J g mLW 60 [] 1016 (l8 j) [] (hs S) sz (n + 1) (6 * (n + 1)) LQ := by
  obtain ⟨d2, P, hd2, hC, hM⟩ := H
  refine J_aload_n (pc := 1016) dL_law__1016 rfl ?_
  refine J_aload_n (pc := 1017) dL_law__1017 rfl ?_
  refine J_iload (pc := 1018) dL_law__1018 rfl ?_
  refine J_iconst (pc := 1020) (v := 1) dL_law__1020 (by decide) ?_
  refine J_iadd (pc := 1021) dL_law__1021 ?_
  refine J_sil (pc := 1022) (q := 9 * j + 1) dL_law__1022 (nI_add _ 1) (by omega) (by omega) ?_
  refine J_aload_n (pc := 1023) dL_law__1023 rfl ?_
  refine J_iload (pc := 1024) dL_law__1024 rfl ?_
  refine J_iconst (pc := 1026) (v := 2) dL_law__1026 (by decide) ?_
  refine J_iadd (pc := 1027) dL_law__1027 ?_
  refine J_sil (pc := 1028) (q := 9 * j + 2) dL_law__1028 (nI_add _ 2) (by omega) (by omega) ?_
  refine J_aload_n (pc := 1029) dL_law__1029 rfl ?_
  refine J_csR (pc := 1030) (N := mL_when) dL_law__1030 ml_L_162 cfw_L_when cs_L_when hC rfl rfl (Nat.le_of_ble_eq_true rfl) (by decide) (by omega) (by omega) (fun k X sz1 hP _ => ?_)
  refine J_istore (pc := 1033) dL_law__1033 (by decide) rfl ?_
  refine J_aload_n (pc := 1035) dL_law__1035 rfl ?_
  refine J_aload_n (pc := 1036) dL_law__1036 rfl ?_
  refine J_iload (pc := 1037) dL_law__1037 rfl ?_
  refine J_iconst (pc := 1039) (v := 1) dL_law__1039 (by decide) ?_
  refine J_iadd (pc := 1040) dL_law__1040 ?_
  refine J_sil (pc := 1041) (q := 9 * j + 1) dL_law__1041 (nI_add _ 1) (by omega) (by omega) ?_
  refine J_aload_n (pc := 1042) dL_law__1042 rfl ?_
  refine J_iload (pc := 1043) dL_law__1043 rfl ?_
  refine J_iconst (pc := 1045) (v := 2) dL_law__1045 (by decide) ?_
  refine J_iadd (pc := 1046) dL_law__1046 ?_
  refine J_sil (pc := 1047) (q := 9 * j + 2) dL_law__1047 (nI_add _ 2) (by omega) (by omega) ?_
  refine J_cvI (pc := 1048) (N := mX11_when) dL_law__1048 ml_L_164 cf_X11_when cv_X11_when (hM _ _ hP) rfl rfl (Nat.le_of_ble_eq_true rfl) hd2 (rv_of (ci := 11) rfl rfl rfl) (fun y Y hY => ?_)
  refine J_istore (pc := 1051) dL_law__1051 (by decide) rfl ?_
  refine J_aload_n (pc := 1053) dL_law__1053 rfl ?_
  refine J_cvr (pc := 1054) (N := mX11_thrown) dL_law__1054 ml_L_121 cf_X11_thrown cv_X11_thrown r_X11_thrown rfl rfl (Nat.le_of_ble_eq_true rfl) (by decide) (rv_of (ci := 11) rfl rfl rfl) ?_
  obtain ⟨hk, hv, hI⟩ := hY
  refine J_t1 hk ?_
  refine J_iload (pc := 1057) dL_law__1057 rfl ?_
  refine J_icmp_eq (pc := 1059) (tgt := 1064) dL_law__1059 (by decide) (fun _ => ?_) (fun c9 => absurd rfl c9)
  refine J_iload (pc := 1064) dL_law__1064 rfl ?_
  refine J_if_ne (pc := 1066) (tgt := 1081) dL_law__1066 (by decide) (fun c9 => ?_) (fun c9 => ?_)
  · refine J_goto (pc := 1081) (tgt := 2409) dL_law__1081 (by decide) ?_
    exact J_forget (pre5 _) (J_mono (Q' := LQ) (kc' := n) (ks' := 6 * n) (by omega) (by omega) (hend _ _ hI))
  · have hv0 := hv c9
    refine J_aload_n (pc := 1069) dL_law__1069 rfl ?_
    refine J_iconst (pc := 1070) (v := 0) dL_law__1070 (by decide) ?_
    refine J_llS (pc := 1071) dL_law__1071 ?_
    refine J_iload (pc := 1072) dL_law__1072 rfl ?_
    refine J_i2l (pc := 1074) dL_law__1074 ?_
    refine J_lcmp (pc := 1075) dL_law__1075 ?_
    refine J_if_eq (pc := 1076) (tgt := 1081) dL_law__1076 (by decide) (fun _ => ?_) (fun c8 => absurd (lcz hv0) c8)
    refine J_goto (pc := 1081) (tgt := 2409) dL_law__1081 (by decide) ?_
    exact J_forget (pre5 _) (J_mono (Q' := LQ) (kc' := n) (ks' := 6 * n) (by omega) (by omega) (hend _ _ hI))
theorem lw_ahead {g : Gp} {INV : Sx → Prop} {S : Sx} {j n sz : Nat} (hL : gV g 11 ≤ 4608) (hj : 9 * j + 9 ≤ gV g 11) (H : SW g INV mL_ahead hL_ahead mX11_ahead wI [.int (xsG g (9 * j + 1)), .int (xsG g (9 * j + 2)), .int (xsG g (9 * j + 3))] S) (hend : ∀ S' sz', INV S' → J g mLW 60 [] 2409 (l5 j) [] (hs S') sz' n (6 * n) LQ) : J g mLW 60 [] 1084 (l8 j) [] (hs S) sz (n + 1) (6 * (n + 1)) LQ := by
  obtain ⟨d2, P, hd2, hC, hM⟩ := H
  refine J_aload_n (pc := 1084) dL_law__1084 rfl ?_
  refine J_aload_n (pc := 1085) dL_law__1085 rfl ?_
  refine J_iload (pc := 1086) dL_law__1086 rfl ?_
  refine J_iconst (pc := 1088) (v := 1) dL_law__1088 (by decide) ?_
  refine J_iadd (pc := 1089) dL_law__1089 ?_
  refine J_sil (pc := 1090) (q := 9 * j + 1) dL_law__1090 (nI_add _ 1) (by omega) (by omega) ?_
  refine J_aload_n (pc := 1091) dL_law__1091 rfl ?_
  refine J_iload (pc := 1092) dL_law__1092 rfl ?_
  refine J_iconst (pc := 1094) (v := 2) dL_law__1094 (by decide) ?_
  refine J_iadd (pc := 1095) dL_law__1095 ?_
  refine J_sil (pc := 1096) (q := 9 * j + 2) dL_law__1096 (nI_add _ 2) (by omega) (by omega) ?_
  refine J_aload_n (pc := 1097) dL_law__1097 rfl ?_
  refine J_iload (pc := 1098) dL_law__1098 rfl ?_
  refine J_iconst (pc := 1100) (v := 3) dL_law__1100 (by decide) ?_
  refine J_iadd (pc := 1101) dL_law__1101 ?_
  refine J_sil (pc := 1102) (q := 9 * j + 3) dL_law__1102 (nI_add _ 3) (by omega) (by omega) ?_
  refine J_aload_n (pc := 1103) dL_law__1103 rfl ?_
  refine J_csR (pc := 1104) (N := mL_ahead) dL_law__1104 ml_L_165 cfw_L_ahead cs_L_ahead hC rfl rfl (Nat.le_of_ble_eq_true rfl) (by decide) (by omega) (by omega) (fun k X sz1 hP _ => ?_)
  refine J_istore (pc := 1107) dL_law__1107 (by decide) rfl ?_
  refine J_aload_n (pc := 1109) dL_law__1109 rfl ?_
  refine J_aload_n (pc := 1110) dL_law__1110 rfl ?_
  refine J_iload (pc := 1111) dL_law__1111 rfl ?_
  refine J_iconst (pc := 1113) (v := 1) dL_law__1113 (by decide) ?_
  refine J_iadd (pc := 1114) dL_law__1114 ?_
  refine J_sil (pc := 1115) (q := 9 * j + 1) dL_law__1115 (nI_add _ 1) (by omega) (by omega) ?_
  refine J_aload_n (pc := 1116) dL_law__1116 rfl ?_
  refine J_iload (pc := 1117) dL_law__1117 rfl ?_
  refine J_iconst (pc := 1119) (v := 2) dL_law__1119 (by decide) ?_
  refine J_iadd (pc := 1120) dL_law__1120 ?_
  refine J_sil (pc := 1121) (q := 9 * j + 2) dL_law__1121 (nI_add _ 2) (by omega) (by omega) ?_
  refine J_aload_n (pc := 1122) dL_law__1122 rfl ?_
  refine J_iload (pc := 1123) dL_law__1123 rfl ?_
  refine J_iconst (pc := 1125) (v := 3) dL_law__1125 (by decide) ?_
  refine J_iadd (pc := 1126) dL_law__1126 ?_
  refine J_sil (pc := 1127) (q := 9 * j + 3) dL_law__1127 (nI_add _ 3) (by omega) (by omega) ?_
  refine J_cvI (pc := 1128) (N := mX11_ahead) dL_law__1128 ml_L_168 cf_X11_ahead cv_X11_ahead (hM _ _ hP) rfl rfl (Nat.le_of_ble_eq_true rfl) hd2 (rv_of (ci := 11) rfl rfl rfl) (fun y Y hY => ?_)
  refine J_istore (pc := 1131) dL_law__1131 (by decide) rfl ?_
  refine J_aload_n (pc := 1133) dL_law__1133 rfl ?_
  refine J_cvr (pc := 1134) (N := mX11_thrown) dL_law__1134 ml_L_121 cf_X11_thrown cv_X11_thrown r_X11_thrown rfl rfl (Nat.le_of_ble_eq_true rfl) (by decide) (rv_of (ci := 11) rfl rfl rfl) ?_
  obtain ⟨hk, hv, hI⟩ := hY
  refine J_t1 hk ?_
  refine J_iload (pc := 1137) dL_law__1137 rfl ?_
  refine J_icmp_eq (pc := 1139) (tgt := 1144) dL_law__1139 (by decide) (fun _ => ?_) (fun c9 => absurd rfl c9)
  refine J_iload (pc := 1144) dL_law__1144 rfl ?_
  refine J_if_ne (pc := 1146) (tgt := 1161) dL_law__1146 (by decide) (fun c9 => ?_) (fun c9 => ?_)
  · refine J_goto (pc := 1161) (tgt := 2409) dL_law__1161 (by decide) ?_
    exact J_forget (pre5 _) (J_mono (Q' := LQ) (kc' := n) (ks' := 6 * n) (by omega) (by omega) (hend _ _ hI))
  · have hv0 := hv c9
    refine J_aload_n (pc := 1149) dL_law__1149 rfl ?_
    refine J_iconst (pc := 1150) (v := 0) dL_law__1150 (by decide) ?_
    refine J_llS (pc := 1151) dL_law__1151 ?_
    refine J_iload (pc := 1152) dL_law__1152 rfl ?_
    refine J_i2l (pc := 1154) dL_law__1154 ?_
    refine J_lcmp (pc := 1155) dL_law__1155 ?_
    refine J_if_eq (pc := 1156) (tgt := 1161) dL_law__1156 (by decide) (fun _ => ?_) (fun c8 => absurd (lcz hv0) c8)
    refine J_goto (pc := 1161) (tgt := 2409) dL_law__1161 (by decide) ?_
    exact J_forget (pre5 _) (J_mono (Q' := LQ) (kc' := n) (ks' := 6 * n) (by omega) (by omega) (hend _ _ hI))
theorem lw_match {g : Gp} {INV : Sx → Prop} {S : Sx} {j n sz : Nat} (hL : gV g 11 ≤ 4608) (hj : 9 * j + 9 ≤ gV g 11) (H : SP g INV mX10_match mX11_match [] S) (hend : ∀ S' sz', INV S' → J g mLW 60 [] 2409 (l5 j) [] (hs S') sz' n (6 * n) LQ) : J g mLW 60 [] 1164 (l8 j) [] (hs S) sz (n + 1) (6 * (n + 1)) LQ := by
  obtain ⟨d1, d2, P, hd1, hd2, hC, hM⟩ := H
  refine J_aload_n (pc := 1164) dL_law__1164 rfl ?_
  refine J_cvI (pc := 1165) (N := mX10_match) dL_law__1165 ml_L_169 cf_X10_match cv_X10_match hC rfl rfl (Nat.le_of_ble_eq_true rfl) hd1 (rv_of (ci := 10) rfl rfl rfl) (fun x X hP => ?_)
  refine J_aload_n (pc := 1168) dL_law__1168 rfl ?_
  refine J_cvI (pc := 1169) (N := mX11_match) dL_law__1169 ml_L_172 cf_X11_match cv_X11_match (hM _ _ hP) rfl rfl (Nat.le_of_ble_eq_true rfl) hd2 (rv_of (ci := 11) rfl rfl rfl) (fun y Y hY => ?_)
  obtain ⟨hxy, hI⟩ := hY
  refine J_icmp_eq (pc := 1172) (tgt := 2409) dL_law__1172 (by decide) (fun _ => ?_) (fun c9 => absurd hxy c9)
  exact J_forget (pre5 _) (J_mono (Q' := LQ) (kc' := n) (ks' := 6 * n) (by omega) (by omega) (hend _ _ hI))
theorem lw_matched {g : Gp} {INV : Sx → Prop} {S : Sx} {j n sz : Nat} (hL : gV g 11 ≤ 4608) (hj : 9 * j + 9 ≤ gV g 11) (H : SW g INV mL_matched hL_matched mX11_matched wI [.int (xsG g (9 * j + 1))] S) (hend : ∀ S' sz', INV S' → J g mLW 60 [] 2409 (l5 j) [] (hs S') sz' n (6 * n) LQ) : J g mLW 60 [] 1177 (l8 j) [] (hs S) sz (n + 1) (6 * (n + 1)) LQ := by
  obtain ⟨d2, P, hd2, hC, hM⟩ := H
  refine J_aload_n (pc := 1177) dL_law__1177 rfl ?_
  refine J_aload_n (pc := 1178) dL_law__1178 rfl ?_
  refine J_iload (pc := 1179) dL_law__1179 rfl ?_
  refine J_iconst (pc := 1181) (v := 1) dL_law__1181 (by decide) ?_
  refine J_iadd (pc := 1182) dL_law__1182 ?_
  refine J_sil (pc := 1183) (q := 9 * j + 1) dL_law__1183 (nI_add _ 1) (by omega) (by omega) ?_
  refine J_aload_n (pc := 1184) dL_law__1184 rfl ?_
  refine J_csR (pc := 1185) (N := mL_matched) dL_law__1185 ml_L_173 cfw_L_matched cs_L_matched hC rfl rfl (Nat.le_of_ble_eq_true rfl) (by decide) (by omega) (by omega) (fun k X sz1 hP _ => ?_)
  refine J_istore (pc := 1188) dL_law__1188 (by decide) rfl ?_
  refine J_aload_n (pc := 1190) dL_law__1190 rfl ?_
  refine J_aload_n (pc := 1191) dL_law__1191 rfl ?_
  refine J_iload (pc := 1192) dL_law__1192 rfl ?_
  refine J_iconst (pc := 1194) (v := 1) dL_law__1194 (by decide) ?_
  refine J_iadd (pc := 1195) dL_law__1195 ?_
  refine J_sil (pc := 1196) (q := 9 * j + 1) dL_law__1196 (nI_add _ 1) (by omega) (by omega) ?_
  refine J_cvI (pc := 1197) (N := mX11_matched) dL_law__1197 ml_L_175 cf_X11_matched cv_X11_matched (hM _ _ hP) rfl rfl (Nat.le_of_ble_eq_true rfl) hd2 (rv_of (ci := 11) rfl rfl rfl) (fun y Y hY => ?_)
  refine J_istore (pc := 1200) dL_law__1200 (by decide) rfl ?_
  refine J_aload_n (pc := 1202) dL_law__1202 rfl ?_
  refine J_cvr (pc := 1203) (N := mX11_thrown) dL_law__1203 ml_L_121 cf_X11_thrown cv_X11_thrown r_X11_thrown rfl rfl (Nat.le_of_ble_eq_true rfl) (by decide) (rv_of (ci := 11) rfl rfl rfl) ?_
  obtain ⟨hk, hv, hI⟩ := hY
  refine J_t1 hk ?_
  refine J_iload (pc := 1206) dL_law__1206 rfl ?_
  refine J_icmp_eq (pc := 1208) (tgt := 1213) dL_law__1208 (by decide) (fun _ => ?_) (fun c9 => absurd rfl c9)
  refine J_iload (pc := 1213) dL_law__1213 rfl ?_
  refine J_if_ne (pc := 1215) (tgt := 1230) dL_law__1215 (by decide) (fun c9 => ?_) (fun c9 => ?_)
  · refine J_goto (pc := 1230) (tgt := 2409) dL_law__1230 (by decide) ?_
    exact J_forget (pre5 _) (J_mono (Q' := LQ) (kc' := n) (ks' := 6 * n) (by omega) (by omega) (hend _ _ hI))
  · have hv0 := hv c9
    refine J_aload_n (pc := 1218) dL_law__1218 rfl ?_
    refine J_iconst (pc := 1219) (v := 0) dL_law__1219 (by decide) ?_
    refine J_llS (pc := 1220) dL_law__1220 ?_
    refine J_iload (pc := 1221) dL_law__1221 rfl ?_
    refine J_i2l (pc := 1223) dL_law__1223 ?_
    refine J_lcmp (pc := 1224) dL_law__1224 ?_
    refine J_if_eq (pc := 1225) (tgt := 1230) dL_law__1225 (by decide) (fun _ => ?_) (fun c8 => absurd (lcz hv0) c8)
    refine J_goto (pc := 1230) (tgt := 2409) dL_law__1230 (by decide) ?_
    exact J_forget (pre5 _) (J_mono (Q' := LQ) (kc' := n) (ks' := 6 * n) (by omega) (by omega) (hend _ _ hI))
theorem lw_lapsed {g : Gp} {INV : Sx → Prop} {S : Sx} {j n sz : Nat} (hL : gV g 11 ≤ 4608) (hj : 9 * j + 9 ≤ gV g 11) (H : SW g INV mL_lapsed hL_lapsed mX11_lapsed wI [.int (xsG g (9 * j + 1))] S) (hend : ∀ S' sz', INV S' → J g mLW 60 [] 2409 (l5 j) [] (hs S') sz' n (6 * n) LQ) : J g mLW 60 [] 1233 (l8 j) [] (hs S) sz (n + 1) (6 * (n + 1)) LQ := by
  obtain ⟨d2, P, hd2, hC, hM⟩ := H
  refine J_aload_n (pc := 1233) dL_law__1233 rfl ?_
  refine J_aload_n (pc := 1234) dL_law__1234 rfl ?_
  refine J_iload (pc := 1235) dL_law__1235 rfl ?_
  refine J_iconst (pc := 1237) (v := 1) dL_law__1237 (by decide) ?_
  refine J_iadd (pc := 1238) dL_law__1238 ?_
  refine J_sil (pc := 1239) (q := 9 * j + 1) dL_law__1239 (nI_add _ 1) (by omega) (by omega) ?_
  refine J_aload_n (pc := 1240) dL_law__1240 rfl ?_
  refine J_csR (pc := 1241) (N := mL_lapsed) dL_law__1241 ml_L_176 cfw_L_lapsed cs_L_lapsed hC rfl rfl (Nat.le_of_ble_eq_true rfl) (by decide) (by omega) (by omega) (fun k X sz1 hP _ => ?_)
  refine J_istore (pc := 1244) dL_law__1244 (by decide) rfl ?_
  refine J_aload_n (pc := 1246) dL_law__1246 rfl ?_
  refine J_aload_n (pc := 1247) dL_law__1247 rfl ?_
  refine J_iload (pc := 1248) dL_law__1248 rfl ?_
  refine J_iconst (pc := 1250) (v := 1) dL_law__1250 (by decide) ?_
  refine J_iadd (pc := 1251) dL_law__1251 ?_
  refine J_sil (pc := 1252) (q := 9 * j + 1) dL_law__1252 (nI_add _ 1) (by omega) (by omega) ?_
  refine J_cvI (pc := 1253) (N := mX11_lapsed) dL_law__1253 ml_L_178 cf_X11_lapsed cv_X11_lapsed (hM _ _ hP) rfl rfl (Nat.le_of_ble_eq_true rfl) hd2 (rv_of (ci := 11) rfl rfl rfl) (fun y Y hY => ?_)
  refine J_istore (pc := 1256) dL_law__1256 (by decide) rfl ?_
  refine J_aload_n (pc := 1258) dL_law__1258 rfl ?_
  refine J_cvr (pc := 1259) (N := mX11_thrown) dL_law__1259 ml_L_121 cf_X11_thrown cv_X11_thrown r_X11_thrown rfl rfl (Nat.le_of_ble_eq_true rfl) (by decide) (rv_of (ci := 11) rfl rfl rfl) ?_
  obtain ⟨hk, hv, hI⟩ := hY
  refine J_t1 hk ?_
  refine J_iload (pc := 1262) dL_law__1262 rfl ?_
  refine J_icmp_eq (pc := 1264) (tgt := 1269) dL_law__1264 (by decide) (fun _ => ?_) (fun c9 => absurd rfl c9)
  refine J_iload (pc := 1269) dL_law__1269 rfl ?_
  refine J_if_ne (pc := 1271) (tgt := 1286) dL_law__1271 (by decide) (fun c9 => ?_) (fun c9 => ?_)
  · refine J_goto (pc := 1286) (tgt := 2409) dL_law__1286 (by decide) ?_
    exact J_forget (pre5 _) (J_mono (Q' := LQ) (kc' := n) (ks' := 6 * n) (by omega) (by omega) (hend _ _ hI))
  · have hv0 := hv c9
    refine J_aload_n (pc := 1274) dL_law__1274 rfl ?_
    refine J_iconst (pc := 1275) (v := 0) dL_law__1275 (by decide) ?_
    refine J_llS (pc := 1276) dL_law__1276 ?_
    refine J_iload (pc := 1277) dL_law__1277 rfl ?_
    refine J_i2l (pc := 1279) dL_law__1279 ?_
    refine J_lcmp (pc := 1280) dL_law__1280 ?_
    refine J_if_eq (pc := 1281) (tgt := 1286) dL_law__1281 (by decide) (fun _ => ?_) (fun c8 => absurd (lcz hv0) c8)
    refine J_goto (pc := 1286) (tgt := 2409) dL_law__1286 (by decide) ?_
    exact J_forget (pre5 _) (J_mono (Q' := LQ) (kc' := n) (ks' := 6 * n) (by omega) (by omega) (hend _ _ hI))
theorem lw_ask {g : Gp} {INV : Sx → Prop} {S : Sx} {j n sz : Nat} (hL : gV g 11 ≤ 4608) (hj : 9 * j + 9 ≤ gV g 11) (H : SW g INV mL_ask hL_ask mX11_ask wI [.int (xsG g (9 * j + 1))] S) (hend : ∀ S' sz', INV S' → J g mLW 60 [] 2409 (l5 j) [] (hs S') sz' n (6 * n) LQ) : J g mLW 60 [] 1289 (l8 j) [] (hs S) sz (n + 1) (6 * (n + 1)) LQ := by
  obtain ⟨d2, P, hd2, hC, hM⟩ := H
  refine J_aload_n (pc := 1289) dL_law__1289 rfl ?_
  refine J_aload_n (pc := 1290) dL_law__1290 rfl ?_
  refine J_iload (pc := 1291) dL_law__1291 rfl ?_
  refine J_iconst (pc := 1293) (v := 1) dL_law__1293 (by decide) ?_
  refine J_iadd (pc := 1294) dL_law__1294 ?_
  refine J_sil (pc := 1295) (q := 9 * j + 1) dL_law__1295 (nI_add _ 1) (by omega) (by omega) ?_
  refine J_aload_n (pc := 1296) dL_law__1296 rfl ?_
  refine J_csR (pc := 1297) (N := mL_ask) dL_law__1297 ml_L_179 cfw_L_ask cs_L_ask hC rfl rfl (Nat.le_of_ble_eq_true rfl) (by decide) (by omega) (by omega) (fun k X sz1 hP _ => ?_)
  refine J_istore (pc := 1300) dL_law__1300 (by decide) rfl ?_
  refine J_aload_n (pc := 1302) dL_law__1302 rfl ?_
  refine J_aload_n (pc := 1303) dL_law__1303 rfl ?_
  refine J_iload (pc := 1304) dL_law__1304 rfl ?_
  refine J_iconst (pc := 1306) (v := 1) dL_law__1306 (by decide) ?_
  refine J_iadd (pc := 1307) dL_law__1307 ?_
  refine J_sil (pc := 1308) (q := 9 * j + 1) dL_law__1308 (nI_add _ 1) (by omega) (by omega) ?_
  refine J_cvI (pc := 1309) (N := mX11_ask) dL_law__1309 ml_L_181 cf_X11_ask cv_X11_ask (hM _ _ hP) rfl rfl (Nat.le_of_ble_eq_true rfl) hd2 (rv_of (ci := 11) rfl rfl rfl) (fun y Y hY => ?_)
  refine J_istore (pc := 1312) dL_law__1312 (by decide) rfl ?_
  refine J_aload_n (pc := 1314) dL_law__1314 rfl ?_
  refine J_cvr (pc := 1315) (N := mX11_thrown) dL_law__1315 ml_L_121 cf_X11_thrown cv_X11_thrown r_X11_thrown rfl rfl (Nat.le_of_ble_eq_true rfl) (by decide) (rv_of (ci := 11) rfl rfl rfl) ?_
  obtain ⟨hk, hv, hI⟩ := hY
  refine J_t1 hk ?_
  refine J_iload (pc := 1318) dL_law__1318 rfl ?_
  refine J_icmp_eq (pc := 1320) (tgt := 1325) dL_law__1320 (by decide) (fun _ => ?_) (fun c9 => absurd rfl c9)
  refine J_iload (pc := 1325) dL_law__1325 rfl ?_
  refine J_if_ne (pc := 1327) (tgt := 1342) dL_law__1327 (by decide) (fun c9 => ?_) (fun c9 => ?_)
  · refine J_goto (pc := 1342) (tgt := 2409) dL_law__1342 (by decide) ?_
    exact J_forget (pre5 _) (J_mono (Q' := LQ) (kc' := n) (ks' := 6 * n) (by omega) (by omega) (hend _ _ hI))
  · have hv0 := hv c9
    refine J_aload_n (pc := 1330) dL_law__1330 rfl ?_
    refine J_iconst (pc := 1331) (v := 0) dL_law__1331 (by decide) ?_
    refine J_llS (pc := 1332) dL_law__1332 ?_
    refine J_iload (pc := 1333) dL_law__1333 rfl ?_
    refine J_i2l (pc := 1335) dL_law__1335 ?_
    refine J_lcmp (pc := 1336) dL_law__1336 ?_
    refine J_if_eq (pc := 1337) (tgt := 1342) dL_law__1337 (by decide) (fun _ => ?_) (fun c8 => absurd (lcz hv0) c8)
    refine J_goto (pc := 1342) (tgt := 2409) dL_law__1342 (by decide) ?_
    exact J_forget (pre5 _) (J_mono (Q' := LQ) (kc' := n) (ks' := 6 * n) (by omega) (by omega) (hend _ _ hI))
theorem lw_best {g : Gp} {INV : Sx → Prop} {S : Sx} {j n sz : Nat} (hL : gV g 11 ≤ 4608) (hj : 9 * j + 9 ≤ gV g 11) (H : SV8 g INV mL_best hL_best mX11_best [.int (xsG g (9 * j + 1)), .int (xsG g (9 * j + 2)), .int (xsG g (9 * j + 3))] S) (hend : ∀ S' sz', INV S' → J g mLW 60 [] 2409 (l5 j) [] (hs S') sz' n (6 * n) LQ) : J g mLW 60 [] 1345 (l8 j) [] (hs S) sz (n + 1) (6 * (n + 1)) LQ := by
  obtain ⟨d2, P, hd2, hC, hM⟩ := H
  refine J_aload_n (pc := 1345) dL_law__1345 rfl ?_
  refine J_aload_n (pc := 1346) dL_law__1346 rfl ?_
  refine J_iload (pc := 1347) dL_law__1347 rfl ?_
  refine J_iconst (pc := 1349) (v := 1) dL_law__1349 (by decide) ?_
  refine J_iadd (pc := 1350) dL_law__1350 ?_
  refine J_sil (pc := 1351) (q := 9 * j + 1) dL_law__1351 (nI_add _ 1) (by omega) (by omega) ?_
  refine J_aload_n (pc := 1352) dL_law__1352 rfl ?_
  refine J_iload (pc := 1353) dL_law__1353 rfl ?_
  refine J_iconst (pc := 1355) (v := 2) dL_law__1355 (by decide) ?_
  refine J_iadd (pc := 1356) dL_law__1356 ?_
  refine J_sil (pc := 1357) (q := 9 * j + 2) dL_law__1357 (nI_add _ 2) (by omega) (by omega) ?_
  refine J_aload_n (pc := 1358) dL_law__1358 rfl ?_
  refine J_iload (pc := 1359) dL_law__1359 rfl ?_
  refine J_iconst (pc := 1361) (v := 3) dL_law__1361 (by decide) ?_
  refine J_iadd (pc := 1362) dL_law__1362 ?_
  refine J_sil (pc := 1363) (q := 9 * j + 3) dL_law__1363 (nI_add _ 3) (by omega) (by omega) ?_
  refine J_aload_n (pc := 1364) dL_law__1364 rfl ?_
  refine J_csR (pc := 1365) (N := mL_best) dL_law__1365 ml_L_182 cfw_L_best cs_L_best hC rfl rfl (Nat.le_of_ble_eq_true rfl) (by decide) (by omega) (by omega) (fun k X sz1 hP _ => ?_)
  refine J_istore (pc := 1368) dL_law__1368 (by decide) rfl ?_
  refine J_aload_n (pc := 1370) dL_law__1370 rfl ?_
  refine J_aload_n (pc := 1371) dL_law__1371 rfl ?_
  refine J_iload (pc := 1372) dL_law__1372 rfl ?_
  refine J_iconst (pc := 1374) (v := 1) dL_law__1374 (by decide) ?_
  refine J_iadd (pc := 1375) dL_law__1375 ?_
  refine J_sil (pc := 1376) (q := 9 * j + 1) dL_law__1376 (nI_add _ 1) (by omega) (by omega) ?_
  refine J_aload_n (pc := 1377) dL_law__1377 rfl ?_
  refine J_iload (pc := 1378) dL_law__1378 rfl ?_
  refine J_iconst (pc := 1380) (v := 2) dL_law__1380 (by decide) ?_
  refine J_iadd (pc := 1381) dL_law__1381 ?_
  refine J_sil (pc := 1382) (q := 9 * j + 2) dL_law__1382 (nI_add _ 2) (by omega) (by omega) ?_
  refine J_aload_n (pc := 1383) dL_law__1383 rfl ?_
  refine J_iload (pc := 1384) dL_law__1384 rfl ?_
  refine J_iconst (pc := 1386) (v := 3) dL_law__1386 (by decide) ?_
  refine J_iadd (pc := 1387) dL_law__1387 ?_
  refine J_sil (pc := 1388) (q := 9 * j + 3) dL_law__1388 (nI_add _ 3) (by omega) (by omega) ?_
  refine J_cvJ (pc := 1389) (N := mX11_best) dL_law__1389 ml_L_184 cf_X11_best cv_X11_best (hM _ _ hP) rfl rfl (Nat.le_of_ble_eq_true rfl) hd2 (rv_of (ci := 11) rfl rfl rfl) (fun y Y hY => ?_)
  refine J_lstore (pc := 1392) dL_law__1392 (by decide) rfl ?_
  refine J_aload_n (pc := 1394) dL_law__1394 rfl ?_
  refine J_cvr (pc := 1395) (N := mX11_thrown) dL_law__1395 ml_L_121 cf_X11_thrown cv_X11_thrown r_X11_thrown rfl rfl (Nat.le_of_ble_eq_true rfl) (by decide) (rv_of (ci := 11) rfl rfl rfl) ?_
  obtain ⟨hk, hv, hI⟩ := hY
  refine J_t1 hk ?_
  refine J_iload (pc := 1398) dL_law__1398 rfl ?_
  refine J_icmp_eq (pc := 1400) (tgt := 1405) dL_law__1400 (by decide) (fun _ => ?_) (fun c9 => absurd rfl c9)
  refine J_iload (pc := 1405) dL_law__1405 rfl ?_
  refine J_if_ne (pc := 1407) (tgt := 1421) dL_law__1407 (by decide) (fun c9 => ?_) (fun c9 => ?_)
  · refine J_goto (pc := 1421) (tgt := 2409) dL_law__1421 (by decide) ?_
    exact J_forget (pre5 _) (J_mono (Q' := LQ) (kc' := n) (ks' := 6 * n) (by omega) (by omega) (hend _ _ hI))
  · have hv0 := hv c9
    refine J_aload_n (pc := 1410) dL_law__1410 rfl ?_
    refine J_iconst (pc := 1411) (v := 0) dL_law__1411 (by decide) ?_
    refine J_llS (pc := 1412) dL_law__1412 ?_
    refine J_lload (pc := 1413) dL_law__1413 rfl ?_
    refine J_lcmp (pc := 1415) dL_law__1415 ?_
    refine J_if_eq (pc := 1416) (tgt := 1421) dL_law__1416 (by decide) (fun _ => ?_) (fun c8 => absurd (lcz hv0) c8)
    refine J_goto (pc := 1421) (tgt := 2409) dL_law__1421 (by decide) ?_
    exact J_forget (pre5 _) (J_mono (Q' := LQ) (kc' := n) (ks' := 6 * n) (by omega) (by omega) (hend _ _ hI))
theorem lw_without {g : Gp} {INV : Sx → Prop} {S : Sx} {j n sz : Nat} (hL : gV g 11 ≤ 4608) (hj : 9 * j + 9 ≤ gV g 11) (H : SV8 g INV mL_without hL_without mX11_without [.int (xsG g (9 * j + 1)), .int (xsG g (9 * j + 2)), .int (xsG g (9 * j + 3))] S) (hend : ∀ S' sz', INV S' → J g mLW 60 [] 2409 (l5 j) [] (hs S') sz' n (6 * n) LQ) : J g mLW 60 [] 1424 (l8 j) [] (hs S) sz (n + 1) (6 * (n + 1)) LQ := by
  obtain ⟨d2, P, hd2, hC, hM⟩ := H
  refine J_aload_n (pc := 1424) dL_law__1424 rfl ?_
  refine J_aload_n (pc := 1425) dL_law__1425 rfl ?_
  refine J_iload (pc := 1426) dL_law__1426 rfl ?_
  refine J_iconst (pc := 1428) (v := 1) dL_law__1428 (by decide) ?_
  refine J_iadd (pc := 1429) dL_law__1429 ?_
  refine J_sil (pc := 1430) (q := 9 * j + 1) dL_law__1430 (nI_add _ 1) (by omega) (by omega) ?_
  refine J_aload_n (pc := 1431) dL_law__1431 rfl ?_
  refine J_iload (pc := 1432) dL_law__1432 rfl ?_
  refine J_iconst (pc := 1434) (v := 2) dL_law__1434 (by decide) ?_
  refine J_iadd (pc := 1435) dL_law__1435 ?_
  refine J_sil (pc := 1436) (q := 9 * j + 2) dL_law__1436 (nI_add _ 2) (by omega) (by omega) ?_
  refine J_aload_n (pc := 1437) dL_law__1437 rfl ?_
  refine J_iload (pc := 1438) dL_law__1438 rfl ?_
  refine J_iconst (pc := 1440) (v := 3) dL_law__1440 (by decide) ?_
  refine J_iadd (pc := 1441) dL_law__1441 ?_
  refine J_sil (pc := 1442) (q := 9 * j + 3) dL_law__1442 (nI_add _ 3) (by omega) (by omega) ?_
  refine J_aload_n (pc := 1443) dL_law__1443 rfl ?_
  refine J_csR (pc := 1444) (N := mL_without) dL_law__1444 ml_L_185 cfw_L_without cs_L_without hC rfl rfl (Nat.le_of_ble_eq_true rfl) (by decide) (by omega) (by omega) (fun k X sz1 hP _ => ?_)
  refine J_istore (pc := 1447) dL_law__1447 (by decide) rfl ?_
  refine J_aload_n (pc := 1449) dL_law__1449 rfl ?_
  refine J_aload_n (pc := 1450) dL_law__1450 rfl ?_
  refine J_iload (pc := 1451) dL_law__1451 rfl ?_
  refine J_iconst (pc := 1453) (v := 1) dL_law__1453 (by decide) ?_
  refine J_iadd (pc := 1454) dL_law__1454 ?_
  refine J_sil (pc := 1455) (q := 9 * j + 1) dL_law__1455 (nI_add _ 1) (by omega) (by omega) ?_
  refine J_aload_n (pc := 1456) dL_law__1456 rfl ?_
  refine J_iload (pc := 1457) dL_law__1457 rfl ?_
  refine J_iconst (pc := 1459) (v := 2) dL_law__1459 (by decide) ?_
  refine J_iadd (pc := 1460) dL_law__1460 ?_
  refine J_sil (pc := 1461) (q := 9 * j + 2) dL_law__1461 (nI_add _ 2) (by omega) (by omega) ?_
  refine J_aload_n (pc := 1462) dL_law__1462 rfl ?_
  refine J_iload (pc := 1463) dL_law__1463 rfl ?_
  refine J_iconst (pc := 1465) (v := 3) dL_law__1465 (by decide) ?_
  refine J_iadd (pc := 1466) dL_law__1466 ?_
  refine J_sil (pc := 1467) (q := 9 * j + 3) dL_law__1467 (nI_add _ 3) (by omega) (by omega) ?_
  refine J_cvJ (pc := 1468) (N := mX11_without) dL_law__1468 ml_L_187 cf_X11_without cv_X11_without (hM _ _ hP) rfl rfl (Nat.le_of_ble_eq_true rfl) hd2 (rv_of (ci := 11) rfl rfl rfl) (fun y Y hY => ?_)
  refine J_lstore (pc := 1471) dL_law__1471 (by decide) rfl ?_
  refine J_aload_n (pc := 1473) dL_law__1473 rfl ?_
  refine J_cvr (pc := 1474) (N := mX11_thrown) dL_law__1474 ml_L_121 cf_X11_thrown cv_X11_thrown r_X11_thrown rfl rfl (Nat.le_of_ble_eq_true rfl) (by decide) (rv_of (ci := 11) rfl rfl rfl) ?_
  obtain ⟨hk, hv, hI⟩ := hY
  refine J_t1 hk ?_
  refine J_iload (pc := 1477) dL_law__1477 rfl ?_
  refine J_icmp_eq (pc := 1479) (tgt := 1484) dL_law__1479 (by decide) (fun _ => ?_) (fun c9 => absurd rfl c9)
  refine J_iload (pc := 1484) dL_law__1484 rfl ?_
  refine J_if_ne (pc := 1486) (tgt := 1500) dL_law__1486 (by decide) (fun c9 => ?_) (fun c9 => ?_)
  · refine J_goto (pc := 1500) (tgt := 2409) dL_law__1500 (by decide) ?_
    exact J_forget (pre5 _) (J_mono (Q' := LQ) (kc' := n) (ks' := 6 * n) (by omega) (by omega) (hend _ _ hI))
  · have hv0 := hv c9
    refine J_aload_n (pc := 1489) dL_law__1489 rfl ?_
    refine J_iconst (pc := 1490) (v := 0) dL_law__1490 (by decide) ?_
    refine J_llS (pc := 1491) dL_law__1491 ?_
    refine J_lload (pc := 1492) dL_law__1492 rfl ?_
    refine J_lcmp (pc := 1494) dL_law__1494 ?_
    refine J_if_eq (pc := 1495) (tgt := 1500) dL_law__1495 (by decide) (fun _ => ?_) (fun c8 => absurd (lcz hv0) c8)
    refine J_goto (pc := 1500) (tgt := 2409) dL_law__1500 (by decide) ?_
    exact J_forget (pre5 _) (J_mono (Q' := LQ) (kc' := n) (ks' := 6 * n) (by omega) (by omega) (hend _ _ hI))
theorem lw_ring {g : Gp} {INV : Sx → Prop} {S : Sx} {j n sz : Nat} (hL : gV g 11 ≤ 4608) (hj : 9 * j + 9 ≤ gV g 11) (H : SW g INV mL_ring hL_ring mX11_ring wI [.int (xsG g (9 * j + 1))] S) (hend : ∀ S' sz', INV S' → J g mLW 60 [] 2409 (l5 j) [] (hs S') sz' n (6 * n) LQ) : J g mLW 60 [] 1503 (l8 j) [] (hs S) sz (n + 1) (6 * (n + 1)) LQ := by
  obtain ⟨d2, P, hd2, hC, hM⟩ := H
  refine J_aload_n (pc := 1503) dL_law__1503 rfl ?_
  refine J_aload_n (pc := 1504) dL_law__1504 rfl ?_
  refine J_iload (pc := 1505) dL_law__1505 rfl ?_
  refine J_iconst (pc := 1507) (v := 1) dL_law__1507 (by decide) ?_
  refine J_iadd (pc := 1508) dL_law__1508 ?_
  refine J_sil (pc := 1509) (q := 9 * j + 1) dL_law__1509 (nI_add _ 1) (by omega) (by omega) ?_
  refine J_aload_n (pc := 1510) dL_law__1510 rfl ?_
  refine J_csR (pc := 1511) (N := mL_ring) dL_law__1511 ml_L_188 cfw_L_ring cs_L_ring hC rfl rfl (Nat.le_of_ble_eq_true rfl) (by decide) (by omega) (by omega) (fun k X sz1 hP _ => ?_)
  refine J_istore (pc := 1514) dL_law__1514 (by decide) rfl ?_
  refine J_aload_n (pc := 1516) dL_law__1516 rfl ?_
  refine J_aload_n (pc := 1517) dL_law__1517 rfl ?_
  refine J_iload (pc := 1518) dL_law__1518 rfl ?_
  refine J_iconst (pc := 1520) (v := 1) dL_law__1520 (by decide) ?_
  refine J_iadd (pc := 1521) dL_law__1521 ?_
  refine J_sil (pc := 1522) (q := 9 * j + 1) dL_law__1522 (nI_add _ 1) (by omega) (by omega) ?_
  refine J_cvI (pc := 1523) (N := mX11_ring) dL_law__1523 ml_L_190 cf_X11_ring cv_X11_ring (hM _ _ hP) rfl rfl (Nat.le_of_ble_eq_true rfl) hd2 (rv_of (ci := 11) rfl rfl rfl) (fun y Y hY => ?_)
  refine J_istore (pc := 1526) dL_law__1526 (by decide) rfl ?_
  refine J_aload_n (pc := 1528) dL_law__1528 rfl ?_
  refine J_cvr (pc := 1529) (N := mX11_thrown) dL_law__1529 ml_L_121 cf_X11_thrown cv_X11_thrown r_X11_thrown rfl rfl (Nat.le_of_ble_eq_true rfl) (by decide) (rv_of (ci := 11) rfl rfl rfl) ?_
  obtain ⟨hk, hv, hI⟩ := hY
  refine J_t1 hk ?_
  refine J_iload (pc := 1532) dL_law__1532 rfl ?_
  refine J_icmp_eq (pc := 1534) (tgt := 1539) dL_law__1534 (by decide) (fun _ => ?_) (fun c9 => absurd rfl c9)
  refine J_iload (pc := 1539) dL_law__1539 rfl ?_
  refine J_if_ne (pc := 1541) (tgt := 1556) dL_law__1541 (by decide) (fun c9 => ?_) (fun c9 => ?_)
  · refine J_goto (pc := 1556) (tgt := 2409) dL_law__1556 (by decide) ?_
    exact J_forget (pre5 _) (J_mono (Q' := LQ) (kc' := n) (ks' := 6 * n) (by omega) (by omega) (hend _ _ hI))
  · have hv0 := hv c9
    refine J_aload_n (pc := 1544) dL_law__1544 rfl ?_
    refine J_iconst (pc := 1545) (v := 0) dL_law__1545 (by decide) ?_
    refine J_llS (pc := 1546) dL_law__1546 ?_
    refine J_iload (pc := 1547) dL_law__1547 rfl ?_
    refine J_i2l (pc := 1549) dL_law__1549 ?_
    refine J_lcmp (pc := 1550) dL_law__1550 ?_
    refine J_if_eq (pc := 1551) (tgt := 1556) dL_law__1551 (by decide) (fun _ => ?_) (fun c8 => absurd (lcz hv0) c8)
    refine J_goto (pc := 1556) (tgt := 2409) dL_law__1556 (by decide) ?_
    exact J_forget (pre5 _) (J_mono (Q' := LQ) (kc' := n) (ks' := 6 * n) (by omega) (by omega) (hend _ _ hI))
theorem lw_follows {g : Gp} {INV : Sx → Prop} {S : Sx} {j n sz : Nat} (hL : gV g 11 ≤ 4608) (hj : 9 * j + 9 ≤ gV g 11) (H : SW g INV mL_follows hL_follows mX11_follows wI [.int (xsG g (9 * j + 1)), .int (xsG g (9 * j + 2))] S) (hend : ∀ S' sz', INV S' → J g mLW 60 [] 2409 (l5 j) [] (hs S') sz' n (6 * n) LQ) : J g mLW 60 [] 1559 (l8 j) [] (hs S) sz (n + 1) (6 * (n + 1)) LQ := by
  obtain ⟨d2, P, hd2, hC, hM⟩ := H
  refine J_aload_n (pc := 1559) dL_law__1559 rfl ?_
  refine J_aload_n (pc := 1560) dL_law__1560 rfl ?_
  refine J_iload (pc := 1561) dL_law__1561 rfl ?_
  refine J_iconst (pc := 1563) (v := 1) dL_law__1563 (by decide) ?_
  refine J_iadd (pc := 1564) dL_law__1564 ?_
  refine J_sil (pc := 1565) (q := 9 * j + 1) dL_law__1565 (nI_add _ 1) (by omega) (by omega) ?_
  refine J_aload_n (pc := 1566) dL_law__1566 rfl ?_
  refine J_iload (pc := 1567) dL_law__1567 rfl ?_
  refine J_iconst (pc := 1569) (v := 2) dL_law__1569 (by decide) ?_
  refine J_iadd (pc := 1570) dL_law__1570 ?_
  refine J_sil (pc := 1571) (q := 9 * j + 2) dL_law__1571 (nI_add _ 2) (by omega) (by omega) ?_
  refine J_aload_n (pc := 1572) dL_law__1572 rfl ?_
  refine J_csR (pc := 1573) (N := mL_follows) dL_law__1573 ml_L_191 cfw_L_follows cs_L_follows hC rfl rfl (Nat.le_of_ble_eq_true rfl) (by decide) (by omega) (by omega) (fun k X sz1 hP _ => ?_)
  refine J_istore (pc := 1576) dL_law__1576 (by decide) rfl ?_
  refine J_aload_n (pc := 1578) dL_law__1578 rfl ?_
  refine J_aload_n (pc := 1579) dL_law__1579 rfl ?_
  refine J_iload (pc := 1580) dL_law__1580 rfl ?_
  refine J_iconst (pc := 1582) (v := 1) dL_law__1582 (by decide) ?_
  refine J_iadd (pc := 1583) dL_law__1583 ?_
  refine J_sil (pc := 1584) (q := 9 * j + 1) dL_law__1584 (nI_add _ 1) (by omega) (by omega) ?_
  refine J_aload_n (pc := 1585) dL_law__1585 rfl ?_
  refine J_iload (pc := 1586) dL_law__1586 rfl ?_
  refine J_iconst (pc := 1588) (v := 2) dL_law__1588 (by decide) ?_
  refine J_iadd (pc := 1589) dL_law__1589 ?_
  refine J_sil (pc := 1590) (q := 9 * j + 2) dL_law__1590 (nI_add _ 2) (by omega) (by omega) ?_
  refine J_cvI (pc := 1591) (N := mX11_follows) dL_law__1591 ml_L_193 cf_X11_follows cv_X11_follows (hM _ _ hP) rfl rfl (Nat.le_of_ble_eq_true rfl) hd2 (rv_of (ci := 11) rfl rfl rfl) (fun y Y hY => ?_)
  refine J_istore (pc := 1594) dL_law__1594 (by decide) rfl ?_
  refine J_aload_n (pc := 1596) dL_law__1596 rfl ?_
  refine J_cvr (pc := 1597) (N := mX11_thrown) dL_law__1597 ml_L_121 cf_X11_thrown cv_X11_thrown r_X11_thrown rfl rfl (Nat.le_of_ble_eq_true rfl) (by decide) (rv_of (ci := 11) rfl rfl rfl) ?_
  obtain ⟨hk, hv, hI⟩ := hY
  refine J_t1 hk ?_
  refine J_iload (pc := 1600) dL_law__1600 rfl ?_
  refine J_icmp_eq (pc := 1602) (tgt := 1607) dL_law__1602 (by decide) (fun _ => ?_) (fun c9 => absurd rfl c9)
  refine J_iload (pc := 1607) dL_law__1607 rfl ?_
  refine J_if_ne (pc := 1609) (tgt := 1624) dL_law__1609 (by decide) (fun c9 => ?_) (fun c9 => ?_)
  · refine J_goto (pc := 1624) (tgt := 2409) dL_law__1624 (by decide) ?_
    exact J_forget (pre5 _) (J_mono (Q' := LQ) (kc' := n) (ks' := 6 * n) (by omega) (by omega) (hend _ _ hI))
  · have hv0 := hv c9
    refine J_aload_n (pc := 1612) dL_law__1612 rfl ?_
    refine J_iconst (pc := 1613) (v := 0) dL_law__1613 (by decide) ?_
    refine J_llS (pc := 1614) dL_law__1614 ?_
    refine J_iload (pc := 1615) dL_law__1615 rfl ?_
    refine J_i2l (pc := 1617) dL_law__1617 ?_
    refine J_lcmp (pc := 1618) dL_law__1618 ?_
    refine J_if_eq (pc := 1619) (tgt := 1624) dL_law__1619 (by decide) (fun _ => ?_) (fun c8 => absurd (lcz hv0) c8)
    refine J_goto (pc := 1624) (tgt := 2409) dL_law__1624 (by decide) ?_
    exact J_forget (pre5 _) (J_mono (Q' := LQ) (kc' := n) (ks' := 6 * n) (by omega) (by omega) (hend _ _ hI))
theorem lw_tempted {g : Gp} {INV : Sx → Prop} {S : Sx} {j n sz : Nat} (hL : gV g 11 ≤ 4608) (hj : 9 * j + 9 ≤ gV g 11) (H : SW g INV mL_tempted hL_tempted mX11_tempted wI [.int (xsG g (9 * j + 1)), .int (xsG g (9 * j + 2)), .int (xsG g (9 * j + 3))] S) (hend : ∀ S' sz', INV S' → J g mLW 60 [] 2409 (l5 j) [] (hs S') sz' n (6 * n) LQ) : J g mLW 60 [] 1627 (l8 j) [] (hs S) sz (n + 1) (6 * (n + 1)) LQ := by
  obtain ⟨d2, P, hd2, hC, hM⟩ := H
  refine J_aload_n (pc := 1627) dL_law__1627 rfl ?_
  refine J_aload_n (pc := 1628) dL_law__1628 rfl ?_
  refine J_iload (pc := 1629) dL_law__1629 rfl ?_
  refine J_iconst (pc := 1631) (v := 1) dL_law__1631 (by decide) ?_
  refine J_iadd (pc := 1632) dL_law__1632 ?_
  refine J_sil (pc := 1633) (q := 9 * j + 1) dL_law__1633 (nI_add _ 1) (by omega) (by omega) ?_
  refine J_aload_n (pc := 1634) dL_law__1634 rfl ?_
  refine J_iload (pc := 1635) dL_law__1635 rfl ?_
  refine J_iconst (pc := 1637) (v := 2) dL_law__1637 (by decide) ?_
  refine J_iadd (pc := 1638) dL_law__1638 ?_
  refine J_sil (pc := 1639) (q := 9 * j + 2) dL_law__1639 (nI_add _ 2) (by omega) (by omega) ?_
  refine J_aload_n (pc := 1640) dL_law__1640 rfl ?_
  refine J_iload (pc := 1641) dL_law__1641 rfl ?_
  refine J_iconst (pc := 1643) (v := 3) dL_law__1643 (by decide) ?_
  refine J_iadd (pc := 1644) dL_law__1644 ?_
  refine J_sil (pc := 1645) (q := 9 * j + 3) dL_law__1645 (nI_add _ 3) (by omega) (by omega) ?_
  refine J_aload_n (pc := 1646) dL_law__1646 rfl ?_
  refine J_csR (pc := 1647) (N := mL_tempted) dL_law__1647 ml_L_194 cfw_L_tempted cs_L_tempted hC rfl rfl (Nat.le_of_ble_eq_true rfl) (by decide) (by omega) (by omega) (fun k X sz1 hP _ => ?_)
  refine J_istore (pc := 1650) dL_law__1650 (by decide) rfl ?_
  refine J_aload_n (pc := 1652) dL_law__1652 rfl ?_
  refine J_aload_n (pc := 1653) dL_law__1653 rfl ?_
  refine J_iload (pc := 1654) dL_law__1654 rfl ?_
  refine J_iconst (pc := 1656) (v := 1) dL_law__1656 (by decide) ?_
  refine J_iadd (pc := 1657) dL_law__1657 ?_
  refine J_sil (pc := 1658) (q := 9 * j + 1) dL_law__1658 (nI_add _ 1) (by omega) (by omega) ?_
  refine J_aload_n (pc := 1659) dL_law__1659 rfl ?_
  refine J_iload (pc := 1660) dL_law__1660 rfl ?_
  refine J_iconst (pc := 1662) (v := 2) dL_law__1662 (by decide) ?_
  refine J_iadd (pc := 1663) dL_law__1663 ?_
  refine J_sil (pc := 1664) (q := 9 * j + 2) dL_law__1664 (nI_add _ 2) (by omega) (by omega) ?_
  refine J_aload_n (pc := 1665) dL_law__1665 rfl ?_
  refine J_iload (pc := 1666) dL_law__1666 rfl ?_
  refine J_iconst (pc := 1668) (v := 3) dL_law__1668 (by decide) ?_
  refine J_iadd (pc := 1669) dL_law__1669 ?_
  refine J_sil (pc := 1670) (q := 9 * j + 3) dL_law__1670 (nI_add _ 3) (by omega) (by omega) ?_
  refine J_cvI (pc := 1671) (N := mX11_tempted) dL_law__1671 ml_L_196 cf_X11_tempted cv_X11_tempted (hM _ _ hP) rfl rfl (Nat.le_of_ble_eq_true rfl) hd2 (rv_of (ci := 11) rfl rfl rfl) (fun y Y hY => ?_)
  refine J_istore (pc := 1674) dL_law__1674 (by decide) rfl ?_
  refine J_aload_n (pc := 1676) dL_law__1676 rfl ?_
  refine J_cvr (pc := 1677) (N := mX11_thrown) dL_law__1677 ml_L_121 cf_X11_thrown cv_X11_thrown r_X11_thrown rfl rfl (Nat.le_of_ble_eq_true rfl) (by decide) (rv_of (ci := 11) rfl rfl rfl) ?_
  obtain ⟨hk, hv, hI⟩ := hY
  refine J_t1 hk ?_
  refine J_iload (pc := 1680) dL_law__1680 rfl ?_
  refine J_icmp_eq (pc := 1682) (tgt := 1687) dL_law__1682 (by decide) (fun _ => ?_) (fun c9 => absurd rfl c9)
  refine J_iload (pc := 1687) dL_law__1687 rfl ?_
  refine J_if_ne (pc := 1689) (tgt := 1704) dL_law__1689 (by decide) (fun c9 => ?_) (fun c9 => ?_)
  · refine J_goto (pc := 1704) (tgt := 2409) dL_law__1704 (by decide) ?_
    exact J_forget (pre5 _) (J_mono (Q' := LQ) (kc' := n) (ks' := 6 * n) (by omega) (by omega) (hend _ _ hI))
  · have hv0 := hv c9
    refine J_aload_n (pc := 1692) dL_law__1692 rfl ?_
    refine J_iconst (pc := 1693) (v := 0) dL_law__1693 (by decide) ?_
    refine J_llS (pc := 1694) dL_law__1694 ?_
    refine J_iload (pc := 1695) dL_law__1695 rfl ?_
    refine J_i2l (pc := 1697) dL_law__1697 ?_
    refine J_lcmp (pc := 1698) dL_law__1698 ?_
    refine J_if_eq (pc := 1699) (tgt := 1704) dL_law__1699 (by decide) (fun _ => ?_) (fun c8 => absurd (lcz hv0) c8)
    refine J_goto (pc := 1704) (tgt := 2409) dL_law__1704 (by decide) ?_
    exact J_forget (pre5 _) (J_mono (Q' := LQ) (kc' := n) (ks' := 6 * n) (by omega) (by omega) (hend _ _ hI))
theorem lw_alms {g : Gp} {INV : Sx → Prop} {S : Sx} {j n sz : Nat} (hL : gV g 11 ≤ 4608) (hj : 9 * j + 9 ≤ gV g 11) (H : SW g INV mL_alms hL_alms mX11_alms wI [.int (xsG g (9 * j + 1)), .int (xsG g (9 * j + 2)), .int (xsG g (9 * j + 3))] S) (hend : ∀ S' sz', INV S' → J g mLW 60 [] 2409 (l5 j) [] (hs S') sz' n (6 * n) LQ) : J g mLW 60 [] 1707 (l8 j) [] (hs S) sz (n + 1) (6 * (n + 1)) LQ := by
  obtain ⟨d2, P, hd2, hC, hM⟩ := H
  refine J_aload_n (pc := 1707) dL_law__1707 rfl ?_
  refine J_aload_n (pc := 1708) dL_law__1708 rfl ?_
  refine J_iload (pc := 1709) dL_law__1709 rfl ?_
  refine J_iconst (pc := 1711) (v := 1) dL_law__1711 (by decide) ?_
  refine J_iadd (pc := 1712) dL_law__1712 ?_
  refine J_sil (pc := 1713) (q := 9 * j + 1) dL_law__1713 (nI_add _ 1) (by omega) (by omega) ?_
  refine J_aload_n (pc := 1714) dL_law__1714 rfl ?_
  refine J_iload (pc := 1715) dL_law__1715 rfl ?_
  refine J_iconst (pc := 1717) (v := 2) dL_law__1717 (by decide) ?_
  refine J_iadd (pc := 1718) dL_law__1718 ?_
  refine J_sil (pc := 1719) (q := 9 * j + 2) dL_law__1719 (nI_add _ 2) (by omega) (by omega) ?_
  refine J_aload_n (pc := 1720) dL_law__1720 rfl ?_
  refine J_iload (pc := 1721) dL_law__1721 rfl ?_
  refine J_iconst (pc := 1723) (v := 3) dL_law__1723 (by decide) ?_
  refine J_iadd (pc := 1724) dL_law__1724 ?_
  refine J_sil (pc := 1725) (q := 9 * j + 3) dL_law__1725 (nI_add _ 3) (by omega) (by omega) ?_
  refine J_aload_n (pc := 1726) dL_law__1726 rfl ?_
  refine J_csR (pc := 1727) (N := mL_alms) dL_law__1727 ml_L_197 cfw_L_alms cs_L_alms hC rfl rfl (Nat.le_of_ble_eq_true rfl) (by decide) (by omega) (by omega) (fun k X sz1 hP _ => ?_)
  refine J_istore (pc := 1730) dL_law__1730 (by decide) rfl ?_
  refine J_aload_n (pc := 1732) dL_law__1732 rfl ?_
  refine J_aload_n (pc := 1733) dL_law__1733 rfl ?_
  refine J_iload (pc := 1734) dL_law__1734 rfl ?_
  refine J_iconst (pc := 1736) (v := 1) dL_law__1736 (by decide) ?_
  refine J_iadd (pc := 1737) dL_law__1737 ?_
  refine J_sil (pc := 1738) (q := 9 * j + 1) dL_law__1738 (nI_add _ 1) (by omega) (by omega) ?_
  refine J_aload_n (pc := 1739) dL_law__1739 rfl ?_
  refine J_iload (pc := 1740) dL_law__1740 rfl ?_
  refine J_iconst (pc := 1742) (v := 2) dL_law__1742 (by decide) ?_
  refine J_iadd (pc := 1743) dL_law__1743 ?_
  refine J_sil (pc := 1744) (q := 9 * j + 2) dL_law__1744 (nI_add _ 2) (by omega) (by omega) ?_
  refine J_aload_n (pc := 1745) dL_law__1745 rfl ?_
  refine J_iload (pc := 1746) dL_law__1746 rfl ?_
  refine J_iconst (pc := 1748) (v := 3) dL_law__1748 (by decide) ?_
  refine J_iadd (pc := 1749) dL_law__1749 ?_
  refine J_sil (pc := 1750) (q := 9 * j + 3) dL_law__1750 (nI_add _ 3) (by omega) (by omega) ?_
  refine J_cvI (pc := 1751) (N := mX11_alms) dL_law__1751 ml_L_199 cf_X11_alms cv_X11_alms (hM _ _ hP) rfl rfl (Nat.le_of_ble_eq_true rfl) hd2 (rv_of (ci := 11) rfl rfl rfl) (fun y Y hY => ?_)
  refine J_istore (pc := 1754) dL_law__1754 (by decide) rfl ?_
  refine J_aload_n (pc := 1756) dL_law__1756 rfl ?_
  refine J_cvr (pc := 1757) (N := mX11_thrown) dL_law__1757 ml_L_121 cf_X11_thrown cv_X11_thrown r_X11_thrown rfl rfl (Nat.le_of_ble_eq_true rfl) (by decide) (rv_of (ci := 11) rfl rfl rfl) ?_
  obtain ⟨hk, hv, hI⟩ := hY
  refine J_t1 hk ?_
  refine J_iload (pc := 1760) dL_law__1760 rfl ?_
  refine J_icmp_eq (pc := 1762) (tgt := 1767) dL_law__1762 (by decide) (fun _ => ?_) (fun c9 => absurd rfl c9)
  refine J_iload (pc := 1767) dL_law__1767 rfl ?_
  refine J_if_ne (pc := 1769) (tgt := 1784) dL_law__1769 (by decide) (fun c9 => ?_) (fun c9 => ?_)
  · refine J_goto (pc := 1784) (tgt := 2409) dL_law__1784 (by decide) ?_
    exact J_forget (pre5 _) (J_mono (Q' := LQ) (kc' := n) (ks' := 6 * n) (by omega) (by omega) (hend _ _ hI))
  · have hv0 := hv c9
    refine J_aload_n (pc := 1772) dL_law__1772 rfl ?_
    refine J_iconst (pc := 1773) (v := 0) dL_law__1773 (by decide) ?_
    refine J_llS (pc := 1774) dL_law__1774 ?_
    refine J_iload (pc := 1775) dL_law__1775 rfl ?_
    refine J_i2l (pc := 1777) dL_law__1777 ?_
    refine J_lcmp (pc := 1778) dL_law__1778 ?_
    refine J_if_eq (pc := 1779) (tgt := 1784) dL_law__1779 (by decide) (fun _ => ?_) (fun c8 => absurd (lcz hv0) c8)
    refine J_goto (pc := 1784) (tgt := 2409) dL_law__1784 (by decide) ?_
    exact J_forget (pre5 _) (J_mono (Q' := LQ) (kc' := n) (ks' := 6 * n) (by omega) (by omega) (hend _ _ hI))
theorem lw_strongest {g : Gp} {INV : Sx → Prop} {S : Sx} {j n sz : Nat} (hL : gV g 11 ≤ 4608) (hj : 9 * j + 9 ≤ gV g 11) (H : SW g INV mL_strongest hL_strongest mX11_strongest wI [.int (xsG g (9 * j + 1))] S) (hend : ∀ S' sz', INV S' → J g mLW 60 [] 2409 (l5 j) [] (hs S') sz' n (6 * n) LQ) : J g mLW 60 [] 1787 (l8 j) [] (hs S) sz (n + 1) (6 * (n + 1)) LQ := by
  obtain ⟨d2, P, hd2, hC, hM⟩ := H
  refine J_aload_n (pc := 1787) dL_law__1787 rfl ?_
  refine J_aload_n (pc := 1788) dL_law__1788 rfl ?_
  refine J_iload (pc := 1789) dL_law__1789 rfl ?_
  refine J_iconst (pc := 1791) (v := 1) dL_law__1791 (by decide) ?_
  refine J_iadd (pc := 1792) dL_law__1792 ?_
  refine J_sil (pc := 1793) (q := 9 * j + 1) dL_law__1793 (nI_add _ 1) (by omega) (by omega) ?_
  refine J_aload_n (pc := 1794) dL_law__1794 rfl ?_
  refine J_csR (pc := 1795) (N := mL_strongest) dL_law__1795 ml_L_200 cfw_L_strongest cs_L_strongest hC rfl rfl (Nat.le_of_ble_eq_true rfl) (by decide) (by omega) (by omega) (fun k X sz1 hP _ => ?_)
  refine J_istore (pc := 1798) dL_law__1798 (by decide) rfl ?_
  refine J_aload_n (pc := 1800) dL_law__1800 rfl ?_
  refine J_aload_n (pc := 1801) dL_law__1801 rfl ?_
  refine J_iload (pc := 1802) dL_law__1802 rfl ?_
  refine J_iconst (pc := 1804) (v := 1) dL_law__1804 (by decide) ?_
  refine J_iadd (pc := 1805) dL_law__1805 ?_
  refine J_sil (pc := 1806) (q := 9 * j + 1) dL_law__1806 (nI_add _ 1) (by omega) (by omega) ?_
  refine J_cvI (pc := 1807) (N := mX11_strongest) dL_law__1807 ml_L_202 cf_X11_strongest cv_X11_strongest (hM _ _ hP) rfl rfl (Nat.le_of_ble_eq_true rfl) hd2 (rv_of (ci := 11) rfl rfl rfl) (fun y Y hY => ?_)
  refine J_istore (pc := 1810) dL_law__1810 (by decide) rfl ?_
  refine J_aload_n (pc := 1812) dL_law__1812 rfl ?_
  refine J_cvr (pc := 1813) (N := mX11_thrown) dL_law__1813 ml_L_121 cf_X11_thrown cv_X11_thrown r_X11_thrown rfl rfl (Nat.le_of_ble_eq_true rfl) (by decide) (rv_of (ci := 11) rfl rfl rfl) ?_
  obtain ⟨hk, hv, hI⟩ := hY
  refine J_t1 hk ?_
  refine J_iload (pc := 1816) dL_law__1816 rfl ?_
  refine J_icmp_eq (pc := 1818) (tgt := 1823) dL_law__1818 (by decide) (fun _ => ?_) (fun c9 => absurd rfl c9)
  refine J_iload (pc := 1823) dL_law__1823 rfl ?_
  refine J_if_ne (pc := 1825) (tgt := 1840) dL_law__1825 (by decide) (fun c9 => ?_) (fun c9 => ?_)
  · refine J_goto (pc := 1840) (tgt := 2409) dL_law__1840 (by decide) ?_
    exact J_forget (pre5 _) (J_mono (Q' := LQ) (kc' := n) (ks' := 6 * n) (by omega) (by omega) (hend _ _ hI))
  · have hv0 := hv c9
    refine J_aload_n (pc := 1828) dL_law__1828 rfl ?_
    refine J_iconst (pc := 1829) (v := 0) dL_law__1829 (by decide) ?_
    refine J_llS (pc := 1830) dL_law__1830 ?_
    refine J_iload (pc := 1831) dL_law__1831 rfl ?_
    refine J_i2l (pc := 1833) dL_law__1833 ?_
    refine J_lcmp (pc := 1834) dL_law__1834 ?_
    refine J_if_eq (pc := 1835) (tgt := 1840) dL_law__1835 (by decide) (fun _ => ?_) (fun c8 => absurd (lcz hv0) c8)
    refine J_goto (pc := 1840) (tgt := 2409) dL_law__1840 (by decide) ?_
    exact J_forget (pre5 _) (J_mono (Q' := LQ) (kc' := n) (ks' := 6 * n) (by omega) (by omega) (hend _ _ hI))
theorem lw_bare {g : Gp} {INV : Sx → Prop} {S : Sx} {j n sz : Nat} (hL : gV g 11 ≤ 4608) (hj : 9 * j + 9 ≤ gV g 11) (H : SP g INV mX10_bare mX11_bare [] S) (hend : ∀ S' sz', INV S' → J g mLW 60 [] 2409 (l5 j) [] (hs S') sz' n (6 * n) LQ) : J g mLW 60 [] 1843 (l8 j) [] (hs S) sz (n + 1) (6 * (n + 1)) LQ := by
  obtain ⟨d1, d2, P, hd1, hd2, hC, hM⟩ := H
  refine J_aload_n (pc := 1843) dL_law__1843 rfl ?_
  refine J_cvI (pc := 1844) (N := mX10_bare) dL_law__1844 ml_L_203 cf_X10_bare cv_X10_bare hC rfl rfl (Nat.le_of_ble_eq_true rfl) hd1 (rv_of (ci := 10) rfl rfl rfl) (fun x X hP => ?_)
  refine J_aload_n (pc := 1847) dL_law__1847 rfl ?_
  refine J_cvI (pc := 1848) (N := mX11_bare) dL_law__1848 ml_L_206 cf_X11_bare cv_X11_bare (hM _ _ hP) rfl rfl (Nat.le_of_ble_eq_true rfl) hd2 (rv_of (ci := 11) rfl rfl rfl) (fun y Y hY => ?_)
  obtain ⟨hxy, hI⟩ := hY
  refine J_icmp_eq (pc := 1851) (tgt := 2409) dL_law__1851 (by decide) (fun _ => ?_) (fun c9 => absurd hxy c9)
  exact J_forget (pre5 _) (J_mono (Q' := LQ) (kc' := n) (ks' := 6 * n) (by omega) (by omega) (hend _ _ hI))
theorem lw_hopeless {g : Gp} {INV : Sx → Prop} {S : Sx} {j n sz : Nat} (hL : gV g 11 ≤ 4608) (hj : 9 * j + 9 ≤ gV g 11) (H : SW g INV mL_hopeless hL_hopeless mX11_hopeless wI [.int (xsG g (9 * j + 1))] S) (hend : ∀ S' sz', INV S' → J g mLW 60 [] 2409 (l5 j) [] (hs S') sz' n (6 * n) LQ) : J g mLW 60 [] 1856 (l8 j) [] (hs S) sz (n + 1) (6 * (n + 1)) LQ := by
  obtain ⟨d2, P, hd2, hC, hM⟩ := H
  refine J_aload_n (pc := 1856) dL_law__1856 rfl ?_
  refine J_aload_n (pc := 1857) dL_law__1857 rfl ?_
  refine J_iload (pc := 1858) dL_law__1858 rfl ?_
  refine J_iconst (pc := 1860) (v := 1) dL_law__1860 (by decide) ?_
  refine J_iadd (pc := 1861) dL_law__1861 ?_
  refine J_sil (pc := 1862) (q := 9 * j + 1) dL_law__1862 (nI_add _ 1) (by omega) (by omega) ?_
  refine J_aload_n (pc := 1863) dL_law__1863 rfl ?_
  refine J_csR (pc := 1864) (N := mL_hopeless) dL_law__1864 ml_L_207 cfw_L_hopeless cs_L_hopeless hC rfl rfl (Nat.le_of_ble_eq_true rfl) (by decide) (by omega) (by omega) (fun k X sz1 hP _ => ?_)
  refine J_istore (pc := 1867) dL_law__1867 (by decide) rfl ?_
  refine J_aload_n (pc := 1869) dL_law__1869 rfl ?_
  refine J_aload_n (pc := 1870) dL_law__1870 rfl ?_
  refine J_iload (pc := 1871) dL_law__1871 rfl ?_
  refine J_iconst (pc := 1873) (v := 1) dL_law__1873 (by decide) ?_
  refine J_iadd (pc := 1874) dL_law__1874 ?_
  refine J_sil (pc := 1875) (q := 9 * j + 1) dL_law__1875 (nI_add _ 1) (by omega) (by omega) ?_
  refine J_cvI (pc := 1876) (N := mX11_hopeless) dL_law__1876 ml_L_209 cf_X11_hopeless cv_X11_hopeless (hM _ _ hP) rfl rfl (Nat.le_of_ble_eq_true rfl) hd2 (rv_of (ci := 11) rfl rfl rfl) (fun y Y hY => ?_)
  refine J_istore (pc := 1879) dL_law__1879 (by decide) rfl ?_
  refine J_aload_n (pc := 1881) dL_law__1881 rfl ?_
  refine J_cvr (pc := 1882) (N := mX11_thrown) dL_law__1882 ml_L_121 cf_X11_thrown cv_X11_thrown r_X11_thrown rfl rfl (Nat.le_of_ble_eq_true rfl) (by decide) (rv_of (ci := 11) rfl rfl rfl) ?_
  obtain ⟨hk, hv, hI⟩ := hY
  refine J_t1 hk ?_
  refine J_iload (pc := 1885) dL_law__1885 rfl ?_
  refine J_icmp_eq (pc := 1887) (tgt := 1892) dL_law__1887 (by decide) (fun _ => ?_) (fun c9 => absurd rfl c9)
  refine J_iload (pc := 1892) dL_law__1892 rfl ?_
  refine J_if_ne (pc := 1894) (tgt := 1909) dL_law__1894 (by decide) (fun c9 => ?_) (fun c9 => ?_)
  · refine J_goto (pc := 1909) (tgt := 2409) dL_law__1909 (by decide) ?_
    exact J_forget (pre5 _) (J_mono (Q' := LQ) (kc' := n) (ks' := 6 * n) (by omega) (by omega) (hend _ _ hI))
  · have hv0 := hv c9
    refine J_aload_n (pc := 1897) dL_law__1897 rfl ?_
    refine J_iconst (pc := 1898) (v := 0) dL_law__1898 (by decide) ?_
    refine J_llS (pc := 1899) dL_law__1899 ?_
    refine J_iload (pc := 1900) dL_law__1900 rfl ?_
    refine J_i2l (pc := 1902) dL_law__1902 ?_
    refine J_lcmp (pc := 1903) dL_law__1903 ?_
    refine J_if_eq (pc := 1904) (tgt := 1909) dL_law__1904 (by decide) (fun _ => ?_) (fun c8 => absurd (lcz hv0) c8)
    refine J_goto (pc := 1909) (tgt := 2409) dL_law__1909 (by decide) ?_
    exact J_forget (pre5 _) (J_mono (Q' := LQ) (kc' := n) (ks' := 6 * n) (by omega) (by omega) (hend _ _ hI))
theorem lw_eldest {g : Gp} {INV : Sx → Prop} {S : Sx} {j n sz : Nat} (hL : gV g 11 ≤ 4608) (hj : 9 * j + 9 ≤ gV g 11) (H : SW g INV mL_eldest hL_eldest mX11_eldest wI [.int (xsG g (9 * j + 1))] S) (hend : ∀ S' sz', INV S' → J g mLW 60 [] 2409 (l5 j) [] (hs S') sz' n (6 * n) LQ) : J g mLW 60 [] 1912 (l8 j) [] (hs S) sz (n + 1) (6 * (n + 1)) LQ := by
  obtain ⟨d2, P, hd2, hC, hM⟩ := H
  refine J_aload_n (pc := 1912) dL_law__1912 rfl ?_
  refine J_aload_n (pc := 1913) dL_law__1913 rfl ?_
  refine J_iload (pc := 1914) dL_law__1914 rfl ?_
  refine J_iconst (pc := 1916) (v := 1) dL_law__1916 (by decide) ?_
  refine J_iadd (pc := 1917) dL_law__1917 ?_
  refine J_sil (pc := 1918) (q := 9 * j + 1) dL_law__1918 (nI_add _ 1) (by omega) (by omega) ?_
  refine J_aload_n (pc := 1919) dL_law__1919 rfl ?_
  refine J_csR (pc := 1920) (N := mL_eldest) dL_law__1920 ml_L_210 cfw_L_eldest cs_L_eldest hC rfl rfl (Nat.le_of_ble_eq_true rfl) (by decide) (by omega) (by omega) (fun k X sz1 hP _ => ?_)
  refine J_istore (pc := 1923) dL_law__1923 (by decide) rfl ?_
  refine J_aload_n (pc := 1925) dL_law__1925 rfl ?_
  refine J_aload_n (pc := 1926) dL_law__1926 rfl ?_
  refine J_iload (pc := 1927) dL_law__1927 rfl ?_
  refine J_iconst (pc := 1929) (v := 1) dL_law__1929 (by decide) ?_
  refine J_iadd (pc := 1930) dL_law__1930 ?_
  refine J_sil (pc := 1931) (q := 9 * j + 1) dL_law__1931 (nI_add _ 1) (by omega) (by omega) ?_
  refine J_cvI (pc := 1932) (N := mX11_eldest) dL_law__1932 ml_L_212 cf_X11_eldest cv_X11_eldest (hM _ _ hP) rfl rfl (Nat.le_of_ble_eq_true rfl) hd2 (rv_of (ci := 11) rfl rfl rfl) (fun y Y hY => ?_)
  refine J_istore (pc := 1935) dL_law__1935 (by decide) rfl ?_
  refine J_aload_n (pc := 1937) dL_law__1937 rfl ?_
  refine J_cvr (pc := 1938) (N := mX11_thrown) dL_law__1938 ml_L_121 cf_X11_thrown cv_X11_thrown r_X11_thrown rfl rfl (Nat.le_of_ble_eq_true rfl) (by decide) (rv_of (ci := 11) rfl rfl rfl) ?_
  obtain ⟨hk, hv, hI⟩ := hY
  refine J_t1 hk ?_
  refine J_iload (pc := 1941) dL_law__1941 rfl ?_
  refine J_icmp_eq (pc := 1943) (tgt := 1948) dL_law__1943 (by decide) (fun _ => ?_) (fun c9 => absurd rfl c9)
  refine J_iload (pc := 1948) dL_law__1948 rfl ?_
  refine J_if_ne (pc := 1950) (tgt := 1965) dL_law__1950 (by decide) (fun c9 => ?_) (fun c9 => ?_)
  · refine J_goto (pc := 1965) (tgt := 2409) dL_law__1965 (by decide) ?_
    exact J_forget (pre5 _) (J_mono (Q' := LQ) (kc' := n) (ks' := 6 * n) (by omega) (by omega) (hend _ _ hI))
  · have hv0 := hv c9
    refine J_aload_n (pc := 1953) dL_law__1953 rfl ?_
    refine J_iconst (pc := 1954) (v := 0) dL_law__1954 (by decide) ?_
    refine J_llS (pc := 1955) dL_law__1955 ?_
    refine J_iload (pc := 1956) dL_law__1956 rfl ?_
    refine J_i2l (pc := 1958) dL_law__1958 ?_
    refine J_lcmp (pc := 1959) dL_law__1959 ?_
    refine J_if_eq (pc := 1960) (tgt := 1965) dL_law__1960 (by decide) (fun _ => ?_) (fun c8 => absurd (lcz hv0) c8)
    refine J_goto (pc := 1965) (tgt := 2409) dL_law__1965 (by decide) ?_
    exact J_forget (pre5 _) (J_mono (Q' := LQ) (kc' := n) (ks' := 6 * n) (by omega) (by omega) (hend _ _ hI))
theorem lw_idle {g : Gp} {INV : Sx → Prop} {S : Sx} {j n sz : Nat} (hL : gV g 11 ≤ 4608) (hj : 9 * j + 9 ≤ gV g 11) (H : SP g INV mX10_idle mX11_idle [] S) (hend : ∀ S' sz', INV S' → J g mLW 60 [] 2409 (l5 j) [] (hs S') sz' n (6 * n) LQ) : J g mLW 60 [] 1968 (l8 j) [] (hs S) sz (n + 1) (6 * (n + 1)) LQ := by
  obtain ⟨d1, d2, P, hd1, hd2, hC, hM⟩ := H
  refine J_aload_n (pc := 1968) dL_law__1968 rfl ?_
  refine J_cvI (pc := 1969) (N := mX10_idle) dL_law__1969 ml_L_213 cf_X10_idle cv_X10_idle hC rfl rfl (Nat.le_of_ble_eq_true rfl) hd1 (rv_of (ci := 10) rfl rfl rfl) (fun x X hP => ?_)
  refine J_aload_n (pc := 1972) dL_law__1972 rfl ?_
  refine J_cvI (pc := 1973) (N := mX11_idle) dL_law__1973 ml_L_216 cf_X11_idle cv_X11_idle (hM _ _ hP) rfl rfl (Nat.le_of_ble_eq_true rfl) hd2 (rv_of (ci := 11) rfl rfl rfl) (fun y Y hY => ?_)
  obtain ⟨hxy, hI⟩ := hY
  refine J_icmp_eq (pc := 1976) (tgt := 2409) dL_law__1976 (by decide) (fun _ => ?_) (fun c9 => absurd hxy c9)
  exact J_forget (pre5 _) (J_mono (Q' := LQ) (kc' := n) (ks' := 6 * n) (by omega) (by omega) (hend _ _ hI))
theorem lw_needs {g : Gp} {INV : Sx → Prop} {S : Sx} {j n sz : Nat} (hL : gV g 11 ≤ 4608) (hj : 9 * j + 9 ≤ gV g 11) (H : SW g INV mL_needs hL_needs mX11_needs wI [.int (xsG g (9 * j + 1))] S) (hend : ∀ S' sz', INV S' → J g mLW 60 [] 2409 (l5 j) [] (hs S') sz' n (6 * n) LQ) : J g mLW 60 [] 1981 (l8 j) [] (hs S) sz (n + 1) (6 * (n + 1)) LQ := by
  obtain ⟨d2, P, hd2, hC, hM⟩ := H
  refine J_aload_n (pc := 1981) dL_law__1981 rfl ?_
  refine J_aload_n (pc := 1982) dL_law__1982 rfl ?_
  refine J_iload (pc := 1983) dL_law__1983 rfl ?_
  refine J_iconst (pc := 1985) (v := 1) dL_law__1985 (by decide) ?_
  refine J_iadd (pc := 1986) dL_law__1986 ?_
  refine J_sil (pc := 1987) (q := 9 * j + 1) dL_law__1987 (nI_add _ 1) (by omega) (by omega) ?_
  refine J_aload_n (pc := 1988) dL_law__1988 rfl ?_
  refine J_csR (pc := 1989) (N := mL_needs) dL_law__1989 ml_L_217 cfw_L_needs cs_L_needs hC rfl rfl (Nat.le_of_ble_eq_true rfl) (by decide) (by omega) (by omega) (fun k X sz1 hP _ => ?_)
  refine J_istore (pc := 1992) dL_law__1992 (by decide) rfl ?_
  refine J_aload_n (pc := 1994) dL_law__1994 rfl ?_
  refine J_aload_n (pc := 1995) dL_law__1995 rfl ?_
  refine J_iload (pc := 1996) dL_law__1996 rfl ?_
  refine J_iconst (pc := 1998) (v := 1) dL_law__1998 (by decide) ?_
  refine J_iadd (pc := 1999) dL_law__1999 ?_
  refine J_sil (pc := 2000) (q := 9 * j + 1) dL_law__2000 (nI_add _ 1) (by omega) (by omega) ?_
  refine J_cvI (pc := 2001) (N := mX11_needs) dL_law__2001 ml_L_219 cf_X11_needs cv_X11_needs (hM _ _ hP) rfl rfl (Nat.le_of_ble_eq_true rfl) hd2 (rv_of (ci := 11) rfl rfl rfl) (fun y Y hY => ?_)
  refine J_istore (pc := 2004) dL_law__2004 (by decide) rfl ?_
  refine J_aload_n (pc := 2006) dL_law__2006 rfl ?_
  refine J_cvr (pc := 2007) (N := mX11_thrown) dL_law__2007 ml_L_121 cf_X11_thrown cv_X11_thrown r_X11_thrown rfl rfl (Nat.le_of_ble_eq_true rfl) (by decide) (rv_of (ci := 11) rfl rfl rfl) ?_
  obtain ⟨hk, hv, hI⟩ := hY
  refine J_t1 hk ?_
  refine J_iload (pc := 2010) dL_law__2010 rfl ?_
  refine J_icmp_eq (pc := 2012) (tgt := 2017) dL_law__2012 (by decide) (fun _ => ?_) (fun c9 => absurd rfl c9)
  refine J_iload (pc := 2017) dL_law__2017 rfl ?_
  refine J_if_ne (pc := 2019) (tgt := 2034) dL_law__2019 (by decide) (fun c9 => ?_) (fun c9 => ?_)
  · refine J_goto (pc := 2034) (tgt := 2409) dL_law__2034 (by decide) ?_
    exact J_forget (pre5 _) (J_mono (Q' := LQ) (kc' := n) (ks' := 6 * n) (by omega) (by omega) (hend _ _ hI))
  · have hv0 := hv c9
    refine J_aload_n (pc := 2022) dL_law__2022 rfl ?_
    refine J_iconst (pc := 2023) (v := 0) dL_law__2023 (by decide) ?_
    refine J_llS (pc := 2024) dL_law__2024 ?_
    refine J_iload (pc := 2025) dL_law__2025 rfl ?_
    refine J_i2l (pc := 2027) dL_law__2027 ?_
    refine J_lcmp (pc := 2028) dL_law__2028 ?_
    refine J_if_eq (pc := 2029) (tgt := 2034) dL_law__2029 (by decide) (fun _ => ?_) (fun c8 => absurd (lcz hv0) c8)
    refine J_goto (pc := 2034) (tgt := 2409) dL_law__2034 (by decide) ?_
    exact J_forget (pre5 _) (J_mono (Q' := LQ) (kc' := n) (ks' := 6 * n) (by omega) (by omega) (hend _ _ hI))
theorem lw_strength {g : Gp} {INV : Sx → Prop} {S : Sx} {j n sz : Nat} (hL : gV g 11 ≤ 4608) (hj : 9 * j + 9 ≤ gV g 11) (H : SW g INV mL_strength hL_strength mX11_strength wI [.int (xsG g (9 * j + 1))] S) (hend : ∀ S' sz', INV S' → J g mLW 60 [] 2409 (l5 j) [] (hs S') sz' n (6 * n) LQ) : J g mLW 60 [] 2037 (l8 j) [] (hs S) sz (n + 1) (6 * (n + 1)) LQ := by
  obtain ⟨d2, P, hd2, hC, hM⟩ := H
  refine J_aload_n (pc := 2037) dL_law__2037 rfl ?_
  refine J_aload_n (pc := 2038) dL_law__2038 rfl ?_
  refine J_iload (pc := 2039) dL_law__2039 rfl ?_
  refine J_iconst (pc := 2041) (v := 1) dL_law__2041 (by decide) ?_
  refine J_iadd (pc := 2042) dL_law__2042 ?_
  refine J_sil (pc := 2043) (q := 9 * j + 1) dL_law__2043 (nI_add _ 1) (by omega) (by omega) ?_
  refine J_aload_n (pc := 2044) dL_law__2044 rfl ?_
  refine J_csR (pc := 2045) (N := mL_strength) dL_law__2045 ml_L_220 cfw_L_strength cs_L_strength hC rfl rfl (Nat.le_of_ble_eq_true rfl) (by decide) (by omega) (by omega) (fun k X sz1 hP _ => ?_)
  refine J_istore (pc := 2048) dL_law__2048 (by decide) rfl ?_
  refine J_aload_n (pc := 2050) dL_law__2050 rfl ?_
  refine J_aload_n (pc := 2051) dL_law__2051 rfl ?_
  refine J_iload (pc := 2052) dL_law__2052 rfl ?_
  refine J_iconst (pc := 2054) (v := 1) dL_law__2054 (by decide) ?_
  refine J_iadd (pc := 2055) dL_law__2055 ?_
  refine J_sil (pc := 2056) (q := 9 * j + 1) dL_law__2056 (nI_add _ 1) (by omega) (by omega) ?_
  refine J_cvI (pc := 2057) (N := mX11_strength) dL_law__2057 ml_L_222 cf_X11_strength cv_X11_strength (hM _ _ hP) rfl rfl (Nat.le_of_ble_eq_true rfl) hd2 (rv_of (ci := 11) rfl rfl rfl) (fun y Y hY => ?_)
  refine J_istore (pc := 2060) dL_law__2060 (by decide) rfl ?_
  refine J_aload_n (pc := 2062) dL_law__2062 rfl ?_
  refine J_cvr (pc := 2063) (N := mX11_thrown) dL_law__2063 ml_L_121 cf_X11_thrown cv_X11_thrown r_X11_thrown rfl rfl (Nat.le_of_ble_eq_true rfl) (by decide) (rv_of (ci := 11) rfl rfl rfl) ?_
  obtain ⟨hk, hv, hI⟩ := hY
  refine J_t1 hk ?_
  refine J_iload (pc := 2066) dL_law__2066 rfl ?_
  refine J_icmp_eq (pc := 2068) (tgt := 2073) dL_law__2068 (by decide) (fun _ => ?_) (fun c9 => absurd rfl c9)
  refine J_iload (pc := 2073) dL_law__2073 rfl ?_
  refine J_if_ne (pc := 2075) (tgt := 2090) dL_law__2075 (by decide) (fun c9 => ?_) (fun c9 => ?_)
  · refine J_goto (pc := 2090) (tgt := 2409) dL_law__2090 (by decide) ?_
    exact J_forget (pre5 _) (J_mono (Q' := LQ) (kc' := n) (ks' := 6 * n) (by omega) (by omega) (hend _ _ hI))
  · have hv0 := hv c9
    refine J_aload_n (pc := 2078) dL_law__2078 rfl ?_
    refine J_iconst (pc := 2079) (v := 0) dL_law__2079 (by decide) ?_
    refine J_llS (pc := 2080) dL_law__2080 ?_
    refine J_iload (pc := 2081) dL_law__2081 rfl ?_
    refine J_i2l (pc := 2083) dL_law__2083 ?_
    refine J_lcmp (pc := 2084) dL_law__2084 ?_
    refine J_if_eq (pc := 2085) (tgt := 2090) dL_law__2085 (by decide) (fun _ => ?_) (fun c8 => absurd (lcz hv0) c8)
    refine J_goto (pc := 2090) (tgt := 2409) dL_law__2090 (by decide) ?_
    exact J_forget (pre5 _) (J_mono (Q' := LQ) (kc' := n) (ks' := 6 * n) (by omega) (by omega) (hend _ _ hI))
theorem lw_weakest {g : Gp} {INV : Sx → Prop} {S : Sx} {j n sz : Nat} (hL : gV g 11 ≤ 4608) (hj : 9 * j + 9 ≤ gV g 11) (H : SW g INV mL_weakest hL_weakest mX11_weakest wI [.int (xsG g (9 * j + 1))] S) (hend : ∀ S' sz', INV S' → J g mLW 60 [] 2409 (l5 j) [] (hs S') sz' n (6 * n) LQ) : J g mLW 60 [] 2093 (l8 j) [] (hs S) sz (n + 1) (6 * (n + 1)) LQ := by
  obtain ⟨d2, P, hd2, hC, hM⟩ := H
  refine J_aload_n (pc := 2093) dL_law__2093 rfl ?_
  refine J_aload_n (pc := 2094) dL_law__2094 rfl ?_
  refine J_iload (pc := 2095) dL_law__2095 rfl ?_
  refine J_iconst (pc := 2097) (v := 1) dL_law__2097 (by decide) ?_
  refine J_iadd (pc := 2098) dL_law__2098 ?_
  refine J_sil (pc := 2099) (q := 9 * j + 1) dL_law__2099 (nI_add _ 1) (by omega) (by omega) ?_
  refine J_aload_n (pc := 2100) dL_law__2100 rfl ?_
  refine J_csR (pc := 2101) (N := mL_weakest) dL_law__2101 ml_L_223 cfw_L_weakest cs_L_weakest hC rfl rfl (Nat.le_of_ble_eq_true rfl) (by decide) (by omega) (by omega) (fun k X sz1 hP _ => ?_)
  refine J_istore (pc := 2104) dL_law__2104 (by decide) rfl ?_
  refine J_aload_n (pc := 2106) dL_law__2106 rfl ?_
  refine J_aload_n (pc := 2107) dL_law__2107 rfl ?_
  refine J_iload (pc := 2108) dL_law__2108 rfl ?_
  refine J_iconst (pc := 2110) (v := 1) dL_law__2110 (by decide) ?_
  refine J_iadd (pc := 2111) dL_law__2111 ?_
  refine J_sil (pc := 2112) (q := 9 * j + 1) dL_law__2112 (nI_add _ 1) (by omega) (by omega) ?_
  refine J_cvI (pc := 2113) (N := mX11_weakest) dL_law__2113 ml_L_225 cf_X11_weakest cv_X11_weakest (hM _ _ hP) rfl rfl (Nat.le_of_ble_eq_true rfl) hd2 (rv_of (ci := 11) rfl rfl rfl) (fun y Y hY => ?_)
  refine J_istore (pc := 2116) dL_law__2116 (by decide) rfl ?_
  refine J_aload_n (pc := 2118) dL_law__2118 rfl ?_
  refine J_cvr (pc := 2119) (N := mX11_thrown) dL_law__2119 ml_L_121 cf_X11_thrown cv_X11_thrown r_X11_thrown rfl rfl (Nat.le_of_ble_eq_true rfl) (by decide) (rv_of (ci := 11) rfl rfl rfl) ?_
  obtain ⟨hk, hv, hI⟩ := hY
  refine J_t1 hk ?_
  refine J_iload (pc := 2122) dL_law__2122 rfl ?_
  refine J_icmp_eq (pc := 2124) (tgt := 2129) dL_law__2124 (by decide) (fun _ => ?_) (fun c9 => absurd rfl c9)
  refine J_iload (pc := 2129) dL_law__2129 rfl ?_
  refine J_if_ne (pc := 2131) (tgt := 2146) dL_law__2131 (by decide) (fun c9 => ?_) (fun c9 => ?_)
  · refine J_goto (pc := 2146) (tgt := 2409) dL_law__2146 (by decide) ?_
    exact J_forget (pre5 _) (J_mono (Q' := LQ) (kc' := n) (ks' := 6 * n) (by omega) (by omega) (hend _ _ hI))
  · have hv0 := hv c9
    refine J_aload_n (pc := 2134) dL_law__2134 rfl ?_
    refine J_iconst (pc := 2135) (v := 0) dL_law__2135 (by decide) ?_
    refine J_llS (pc := 2136) dL_law__2136 ?_
    refine J_iload (pc := 2137) dL_law__2137 rfl ?_
    refine J_i2l (pc := 2139) dL_law__2139 ?_
    refine J_lcmp (pc := 2140) dL_law__2140 ?_
    refine J_if_eq (pc := 2141) (tgt := 2146) dL_law__2141 (by decide) (fun _ => ?_) (fun c8 => absurd (lcz hv0) c8)
    refine J_goto (pc := 2146) (tgt := 2409) dL_law__2146 (by decide) ?_
    exact J_forget (pre5 _) (J_mono (Q' := LQ) (kc' := n) (ks' := 6 * n) (by omega) (by omega) (hend _ _ hI))
theorem lw_year {g : Gp} {INV : Sx → Prop} {S : Sx} {j n sz : Nat} (hL : gV g 11 ≤ 4608) (hj : 9 * j + 9 ≤ gV g 11) (H : SW g INV mL_year hL_year mX11_year wI [.int (xsG g (9 * j + 1)), .int (xsG g (9 * j + 2)), .int (xsG g (9 * j + 3))] S) (hend : ∀ S' sz', INV S' → J g mLW 60 [] 2409 (l5 j) [] (hs S') sz' n (6 * n) LQ) : J g mLW 60 [] 2149 (l8 j) [] (hs S) sz (n + 1) (6 * (n + 1)) LQ := by
  obtain ⟨d2, P, hd2, hC, hM⟩ := H
  refine J_aload_n (pc := 2149) dL_law__2149 rfl ?_
  refine J_aload_n (pc := 2150) dL_law__2150 rfl ?_
  refine J_iload (pc := 2151) dL_law__2151 rfl ?_
  refine J_iconst (pc := 2153) (v := 1) dL_law__2153 (by decide) ?_
  refine J_iadd (pc := 2154) dL_law__2154 ?_
  refine J_sil (pc := 2155) (q := 9 * j + 1) dL_law__2155 (nI_add _ 1) (by omega) (by omega) ?_
  refine J_aload_n (pc := 2156) dL_law__2156 rfl ?_
  refine J_iload (pc := 2157) dL_law__2157 rfl ?_
  refine J_iconst (pc := 2159) (v := 2) dL_law__2159 (by decide) ?_
  refine J_iadd (pc := 2160) dL_law__2160 ?_
  refine J_sil (pc := 2161) (q := 9 * j + 2) dL_law__2161 (nI_add _ 2) (by omega) (by omega) ?_
  refine J_aload_n (pc := 2162) dL_law__2162 rfl ?_
  refine J_iload (pc := 2163) dL_law__2163 rfl ?_
  refine J_iconst (pc := 2165) (v := 3) dL_law__2165 (by decide) ?_
  refine J_iadd (pc := 2166) dL_law__2166 ?_
  refine J_sil (pc := 2167) (q := 9 * j + 3) dL_law__2167 (nI_add _ 3) (by omega) (by omega) ?_
  refine J_aload_n (pc := 2168) dL_law__2168 rfl ?_
  refine J_csR (pc := 2169) (N := mL_year) dL_law__2169 ml_L_226 cfw_L_year cs_L_year hC rfl rfl (Nat.le_of_ble_eq_true rfl) (by decide) (by omega) (by omega) (fun k X sz1 hP _ => ?_)
  refine J_istore (pc := 2172) dL_law__2172 (by decide) rfl ?_
  refine J_aload_n (pc := 2174) dL_law__2174 rfl ?_
  refine J_aload_n (pc := 2175) dL_law__2175 rfl ?_
  refine J_iload (pc := 2176) dL_law__2176 rfl ?_
  refine J_iconst (pc := 2178) (v := 1) dL_law__2178 (by decide) ?_
  refine J_iadd (pc := 2179) dL_law__2179 ?_
  refine J_sil (pc := 2180) (q := 9 * j + 1) dL_law__2180 (nI_add _ 1) (by omega) (by omega) ?_
  refine J_aload_n (pc := 2181) dL_law__2181 rfl ?_
  refine J_iload (pc := 2182) dL_law__2182 rfl ?_
  refine J_iconst (pc := 2184) (v := 2) dL_law__2184 (by decide) ?_
  refine J_iadd (pc := 2185) dL_law__2185 ?_
  refine J_sil (pc := 2186) (q := 9 * j + 2) dL_law__2186 (nI_add _ 2) (by omega) (by omega) ?_
  refine J_aload_n (pc := 2187) dL_law__2187 rfl ?_
  refine J_iload (pc := 2188) dL_law__2188 rfl ?_
  refine J_iconst (pc := 2190) (v := 3) dL_law__2190 (by decide) ?_
  refine J_iadd (pc := 2191) dL_law__2191 ?_
  refine J_sil (pc := 2192) (q := 9 * j + 3) dL_law__2192 (nI_add _ 3) (by omega) (by omega) ?_
  refine J_cvI (pc := 2193) (N := mX11_year) dL_law__2193 ml_L_228 cf_X11_year cv_X11_year (hM _ _ hP) rfl rfl (Nat.le_of_ble_eq_true rfl) hd2 (rv_of (ci := 11) rfl rfl rfl) (fun y Y hY => ?_)
  refine J_istore (pc := 2196) dL_law__2196 (by decide) rfl ?_
  refine J_aload_n (pc := 2198) dL_law__2198 rfl ?_
  refine J_cvr (pc := 2199) (N := mX11_thrown) dL_law__2199 ml_L_121 cf_X11_thrown cv_X11_thrown r_X11_thrown rfl rfl (Nat.le_of_ble_eq_true rfl) (by decide) (rv_of (ci := 11) rfl rfl rfl) ?_
  obtain ⟨hk, hv, hI⟩ := hY
  refine J_t1 hk ?_
  refine J_iload (pc := 2202) dL_law__2202 rfl ?_
  refine J_icmp_eq (pc := 2204) (tgt := 2209) dL_law__2204 (by decide) (fun _ => ?_) (fun c9 => absurd rfl c9)
  refine J_iload (pc := 2209) dL_law__2209 rfl ?_
  refine J_if_ne (pc := 2211) (tgt := 2226) dL_law__2211 (by decide) (fun c9 => ?_) (fun c9 => ?_)
  · refine J_goto (pc := 2226) (tgt := 2409) dL_law__2226 (by decide) ?_
    exact J_forget (pre5 _) (J_mono (Q' := LQ) (kc' := n) (ks' := 6 * n) (by omega) (by omega) (hend _ _ hI))
  · have hv0 := hv c9
    refine J_aload_n (pc := 2214) dL_law__2214 rfl ?_
    refine J_iconst (pc := 2215) (v := 0) dL_law__2215 (by decide) ?_
    refine J_llS (pc := 2216) dL_law__2216 ?_
    refine J_iload (pc := 2217) dL_law__2217 rfl ?_
    refine J_i2l (pc := 2219) dL_law__2219 ?_
    refine J_lcmp (pc := 2220) dL_law__2220 ?_
    refine J_if_eq (pc := 2221) (tgt := 2226) dL_law__2221 (by decide) (fun _ => ?_) (fun c8 => absurd (lcz hv0) c8)
    refine J_goto (pc := 2226) (tgt := 2409) dL_law__2226 (by decide) ?_
    exact J_forget (pre5 _) (J_mono (Q' := LQ) (kc' := n) (ks' := 6 * n) (by omega) (by omega) (hend _ _ hI))
theorem lw_span {g : Gp} {INV : Sx → Prop} {S : Sx} {j n sz : Nat} (hL : gV g 11 ≤ 4608) (hj : 9 * j + 9 ≤ gV g 11) (H : SW g INV mL_span hL_span mX11_span wI [.int (xsG g (9 * j + 1)), .int (xsG g (9 * j + 2)), .int (xsG g (9 * j + 3)), .int (xsG g (9 * j + 4)), .int (xsG g (9 * j + 5))] S) (hend : ∀ S' sz', INV S' → J g mLW 60 [] 2409 (l5 j) [] (hs S') sz' n (6 * n) LQ) : J g mLW 60 [] 2229 (l8 j) [] (hs S) sz (n + 1) (6 * (n + 1)) LQ := by
  obtain ⟨d2, P, hd2, hC, hM⟩ := H
  refine J_aload_n (pc := 2229) dL_law__2229 rfl ?_
  refine J_aload_n (pc := 2230) dL_law__2230 rfl ?_
  refine J_iload (pc := 2231) dL_law__2231 rfl ?_
  refine J_iconst (pc := 2233) (v := 1) dL_law__2233 (by decide) ?_
  refine J_iadd (pc := 2234) dL_law__2234 ?_
  refine J_sil (pc := 2235) (q := 9 * j + 1) dL_law__2235 (nI_add _ 1) (by omega) (by omega) ?_
  refine J_aload_n (pc := 2236) dL_law__2236 rfl ?_
  refine J_iload (pc := 2237) dL_law__2237 rfl ?_
  refine J_iconst (pc := 2239) (v := 2) dL_law__2239 (by decide) ?_
  refine J_iadd (pc := 2240) dL_law__2240 ?_
  refine J_sil (pc := 2241) (q := 9 * j + 2) dL_law__2241 (nI_add _ 2) (by omega) (by omega) ?_
  refine J_aload_n (pc := 2242) dL_law__2242 rfl ?_
  refine J_iload (pc := 2243) dL_law__2243 rfl ?_
  refine J_iconst (pc := 2245) (v := 3) dL_law__2245 (by decide) ?_
  refine J_iadd (pc := 2246) dL_law__2246 ?_
  refine J_sil (pc := 2247) (q := 9 * j + 3) dL_law__2247 (nI_add _ 3) (by omega) (by omega) ?_
  refine J_aload_n (pc := 2248) dL_law__2248 rfl ?_
  refine J_iload (pc := 2249) dL_law__2249 rfl ?_
  refine J_iconst (pc := 2251) (v := 4) dL_law__2251 (by decide) ?_
  refine J_iadd (pc := 2252) dL_law__2252 ?_
  refine J_sil (pc := 2253) (q := 9 * j + 4) dL_law__2253 (nI_add _ 4) (by omega) (by omega) ?_
  refine J_aload_n (pc := 2254) dL_law__2254 rfl ?_
  refine J_iload (pc := 2255) dL_law__2255 rfl ?_
  refine J_iconst (pc := 2257) (v := 5) dL_law__2257 (by decide) ?_
  refine J_iadd (pc := 2258) dL_law__2258 ?_
  refine J_sil (pc := 2259) (q := 9 * j + 5) dL_law__2259 (nI_add _ 5) (by omega) (by omega) ?_
  refine J_aload_n (pc := 2260) dL_law__2260 rfl ?_
  refine J_csR (pc := 2261) (N := mL_span) dL_law__2261 ml_L_229 cfw_L_span cs_L_span hC rfl rfl (Nat.le_of_ble_eq_true rfl) (by decide) (by omega) (by omega) (fun k X sz1 hP _ => ?_)
  refine J_istore (pc := 2264) dL_law__2264 (by decide) rfl ?_
  refine J_aload_n (pc := 2266) dL_law__2266 rfl ?_
  refine J_aload_n (pc := 2267) dL_law__2267 rfl ?_
  refine J_iload (pc := 2268) dL_law__2268 rfl ?_
  refine J_iconst (pc := 2270) (v := 1) dL_law__2270 (by decide) ?_
  refine J_iadd (pc := 2271) dL_law__2271 ?_
  refine J_sil (pc := 2272) (q := 9 * j + 1) dL_law__2272 (nI_add _ 1) (by omega) (by omega) ?_
  refine J_aload_n (pc := 2273) dL_law__2273 rfl ?_
  refine J_iload (pc := 2274) dL_law__2274 rfl ?_
  refine J_iconst (pc := 2276) (v := 2) dL_law__2276 (by decide) ?_
  refine J_iadd (pc := 2277) dL_law__2277 ?_
  refine J_sil (pc := 2278) (q := 9 * j + 2) dL_law__2278 (nI_add _ 2) (by omega) (by omega) ?_
  refine J_aload_n (pc := 2279) dL_law__2279 rfl ?_
  refine J_iload (pc := 2280) dL_law__2280 rfl ?_
  refine J_iconst (pc := 2282) (v := 3) dL_law__2282 (by decide) ?_
  refine J_iadd (pc := 2283) dL_law__2283 ?_
  refine J_sil (pc := 2284) (q := 9 * j + 3) dL_law__2284 (nI_add _ 3) (by omega) (by omega) ?_
  refine J_aload_n (pc := 2285) dL_law__2285 rfl ?_
  refine J_iload (pc := 2286) dL_law__2286 rfl ?_
  refine J_iconst (pc := 2288) (v := 4) dL_law__2288 (by decide) ?_
  refine J_iadd (pc := 2289) dL_law__2289 ?_
  refine J_sil (pc := 2290) (q := 9 * j + 4) dL_law__2290 (nI_add _ 4) (by omega) (by omega) ?_
  refine J_aload_n (pc := 2291) dL_law__2291 rfl ?_
  refine J_iload (pc := 2292) dL_law__2292 rfl ?_
  refine J_iconst (pc := 2294) (v := 5) dL_law__2294 (by decide) ?_
  refine J_iadd (pc := 2295) dL_law__2295 ?_
  refine J_sil (pc := 2296) (q := 9 * j + 5) dL_law__2296 (nI_add _ 5) (by omega) (by omega) ?_
  refine J_cvI (pc := 2297) (N := mX11_span) dL_law__2297 ml_L_232 cf_X11_span cv_X11_span (hM _ _ hP) rfl rfl (Nat.le_of_ble_eq_true rfl) hd2 (rv_of (ci := 11) rfl rfl rfl) (fun y Y hY => ?_)
  refine J_istore (pc := 2300) dL_law__2300 (by decide) rfl ?_
  refine J_aload_n (pc := 2302) dL_law__2302 rfl ?_
  refine J_cvr (pc := 2303) (N := mX11_thrown) dL_law__2303 ml_L_121 cf_X11_thrown cv_X11_thrown r_X11_thrown rfl rfl (Nat.le_of_ble_eq_true rfl) (by decide) (rv_of (ci := 11) rfl rfl rfl) ?_
  obtain ⟨hk, hv, hI⟩ := hY
  refine J_t1 hk ?_
  refine J_iload (pc := 2306) dL_law__2306 rfl ?_
  refine J_icmp_eq (pc := 2308) (tgt := 2313) dL_law__2308 (by decide) (fun _ => ?_) (fun c9 => absurd rfl c9)
  refine J_iload (pc := 2313) dL_law__2313 rfl ?_
  refine J_if_ne (pc := 2315) (tgt := 2330) dL_law__2315 (by decide) (fun c9 => ?_) (fun c9 => ?_)
  · refine J_goto (pc := 2330) (tgt := 2409) dL_law__2330 (by decide) ?_
    exact J_forget (pre5 _) (J_mono (Q' := LQ) (kc' := n) (ks' := 6 * n) (by omega) (by omega) (hend _ _ hI))
  · have hv0 := hv c9
    refine J_aload_n (pc := 2318) dL_law__2318 rfl ?_
    refine J_iconst (pc := 2319) (v := 0) dL_law__2319 (by decide) ?_
    refine J_llS (pc := 2320) dL_law__2320 ?_
    refine J_iload (pc := 2321) dL_law__2321 rfl ?_
    refine J_i2l (pc := 2323) dL_law__2323 ?_
    refine J_lcmp (pc := 2324) dL_law__2324 ?_
    refine J_if_eq (pc := 2325) (tgt := 2330) dL_law__2325 (by decide) (fun _ => ?_) (fun c8 => absurd (lcz hv0) c8)
    refine J_goto (pc := 2330) (tgt := 2409) dL_law__2330 (by decide) ?_
    exact J_forget (pre5 _) (J_mono (Q' := LQ) (kc' := n) (ks' := 6 * n) (by omega) (by omega) (hend _ _ hI))
theorem lw_image {g : Gp} {INV : Sx → Prop} {S : Sx} {j n sz : Nat} (hL : gV g 11 ≤ 4608) (hj : 9 * j + 9 ≤ gV g 11) (H : SP g INV mX10_image mX11_image [] S) (hend : ∀ S' sz', INV S' → J g mLW 60 [] 2409 (l5 j) [] (hs S') sz' n (6 * n) LQ) : J g mLW 60 [] 2333 (l8 j) [] (hs S) sz (n + 1) (6 * (n + 1)) LQ := by
  obtain ⟨d1, d2, P, hd1, hd2, hC, hM⟩ := H
  refine J_aload_n (pc := 2333) dL_law__2333 rfl ?_
  refine J_cvI (pc := 2334) (N := mX10_image) dL_law__2334 ml_L_233 cf_X10_image cv_X10_image hC rfl rfl (Nat.le_of_ble_eq_true rfl) hd1 (rv_of (ci := 10) rfl rfl rfl) (fun x X hP => ?_)
  refine J_aload_n (pc := 2337) dL_law__2337 rfl ?_
  refine J_cvI (pc := 2338) (N := mX11_image) dL_law__2338 ml_L_236 cf_X11_image cv_X11_image (hM _ _ hP) rfl rfl (Nat.le_of_ble_eq_true rfl) hd2 (rv_of (ci := 11) rfl rfl rfl) (fun y Y hY => ?_)
  obtain ⟨hxy, hI⟩ := hY
  refine J_icmp_eq (pc := 2341) (tgt := 2409) dL_law__2341 (by decide) (fun _ => ?_) (fun c9 => absurd hxy c9)
  exact J_forget (pre5 _) (J_mono (Q' := LQ) (kc' := n) (ks' := 6 * n) (by omega) (by omega) (hend _ _ hI))
theorem lw_restore {g : Gp} {INV : Sx → Prop} {S : Sx} {j n sz : Nat} (hL : gV g 11 ≤ 4608) (hj : 9 * j + 9 ≤ gV g 11) (H : SP g INV mX10_restore mX11_restore [] S) (hend : ∀ S' sz', INV S' → J g mLW 60 [] 2409 (l5 j) [] (hs S') sz' n (6 * n) LQ) : J g mLW 60 [] 2346 (l8 j) [] (hs S) sz (n + 1) (6 * (n + 1)) LQ := by
  obtain ⟨d1, d2, P, hd1, hd2, hC, hM⟩ := H
  refine J_aload_n (pc := 2346) dL_law__2346 rfl ?_
  refine J_cvI (pc := 2347) (N := mX10_restore) dL_law__2347 ml_L_237 cf_X10_restore cv_X10_restore hC rfl rfl (Nat.le_of_ble_eq_true rfl) hd1 (rv_of (ci := 10) rfl rfl rfl) (fun x X hP => ?_)
  refine J_aload_n (pc := 2350) dL_law__2350 rfl ?_
  refine J_cvI (pc := 2351) (N := mX11_restore) dL_law__2351 ml_L_240 cf_X11_restore cv_X11_restore (hM _ _ hP) rfl rfl (Nat.le_of_ble_eq_true rfl) hd2 (rv_of (ci := 11) rfl rfl rfl) (fun y Y hY => ?_)
  obtain ⟨hxy, hI⟩ := hY
  refine J_icmp_eq (pc := 2354) (tgt := 2409) dL_law__2354 (by decide) (fun _ => ?_) (fun c9 => absurd hxy c9)
  exact J_forget (pre5 _) (J_mono (Q' := LQ) (kc' := n) (ks' := 6 * n) (by omega) (by omega) (hend _ _ hI))
theorem lw_status {g : Gp} {INV : Sx → Prop} {S : Sx} {j n sz : Nat} (hL : gV g 11 ≤ 4608) (hj : 9 * j + 9 ≤ gV g 11) (H : SP g INV mX10_status mX11_status [.int (xsG g (9 * j + 1))] S) (hend : ∀ S' sz', INV S' → J g mLW 60 [] 2409 (l5 j) [] (hs S') sz' n (6 * n) LQ) : J g mLW 60 [] 2359 (l8 j) [] (hs S) sz (n + 1) (6 * (n + 1)) LQ := by
  obtain ⟨d1, d2, P, hd1, hd2, hC, hM⟩ := H
  refine J_aload_n (pc := 2359) dL_law__2359 rfl ?_
  refine J_aload_n (pc := 2360) dL_law__2360 rfl ?_
  refine J_iload (pc := 2361) dL_law__2361 rfl ?_
  refine J_iconst (pc := 2363) (v := 1) dL_law__2363 (by decide) ?_
  refine J_iadd (pc := 2364) dL_law__2364 ?_
  refine J_sil (pc := 2365) (q := 9 * j + 1) dL_law__2365 (nI_add _ 1) (by omega) (by omega) ?_
  refine J_cvI (pc := 2366) (N := mX10_status) dL_law__2366 ml_L_241 cf_X10_status cv_X10_status hC rfl rfl (Nat.le_of_ble_eq_true rfl) hd1 (rv_of (ci := 10) rfl rfl rfl) (fun x X hP => ?_)
  refine J_aload_n (pc := 2369) dL_law__2369 rfl ?_
  refine J_aload_n (pc := 2370) dL_law__2370 rfl ?_
  refine J_iload (pc := 2371) dL_law__2371 rfl ?_
  refine J_iconst (pc := 2373) (v := 1) dL_law__2373 (by decide) ?_
  refine J_iadd (pc := 2374) dL_law__2374 ?_
  refine J_sil (pc := 2375) (q := 9 * j + 1) dL_law__2375 (nI_add _ 1) (by omega) (by omega) ?_
  refine J_cvI (pc := 2376) (N := mX11_status) dL_law__2376 ml_L_244 cf_X11_status cv_X11_status (hM _ _ hP) rfl rfl (Nat.le_of_ble_eq_true rfl) hd2 (rv_of (ci := 11) rfl rfl rfl) (fun y Y hY => ?_)
  obtain ⟨hxy, hI⟩ := hY
  refine J_icmp_eq (pc := 2379) (tgt := 2409) dL_law__2379 (by decide) (fun _ => ?_) (fun c9 => absurd hxy c9)
  exact J_forget (pre5 _) (J_mono (Q' := LQ) (kc' := n) (ks' := 6 * n) (by omega) (by omega) (hend _ _ hI))
theorem lw_count {g : Gp} {INV : Sx → Prop} {S : Sx} {j n sz : Nat} (hL : gV g 11 ≤ 4608) (hj : 9 * j + 9 ≤ gV g 11) (H : SP g INV mX10_count mX11_count [.int (xsG g (9 * j + 1))] S) (hend : ∀ S' sz', INV S' → J g mLW 60 [] 2409 (l5 j) [] (hs S') sz' n (6 * n) LQ) : J g mLW 60 [] 2384 (l8 j) [] (hs S) sz (n + 1) (6 * (n + 1)) LQ := by
  obtain ⟨d1, d2, P, hd1, hd2, hC, hM⟩ := H
  refine J_aload_n (pc := 2384) dL_law__2384 rfl ?_
  refine J_aload_n (pc := 2385) dL_law__2385 rfl ?_
  refine J_iload (pc := 2386) dL_law__2386 rfl ?_
  refine J_iconst (pc := 2388) (v := 1) dL_law__2388 (by decide) ?_
  refine J_iadd (pc := 2389) dL_law__2389 ?_
  refine J_sil (pc := 2390) (q := 9 * j + 1) dL_law__2390 (nI_add _ 1) (by omega) (by omega) ?_
  refine J_cvI (pc := 2391) (N := mX10_count) dL_law__2391 ml_L_245 cf_X10_count cv_X10_count hC rfl rfl (Nat.le_of_ble_eq_true rfl) hd1 (rv_of (ci := 10) rfl rfl rfl) (fun x X hP => ?_)
  refine J_aload_n (pc := 2394) dL_law__2394 rfl ?_
  refine J_aload_n (pc := 2395) dL_law__2395 rfl ?_
  refine J_iload (pc := 2396) dL_law__2396 rfl ?_
  refine J_iconst (pc := 2398) (v := 1) dL_law__2398 (by decide) ?_
  refine J_iadd (pc := 2399) dL_law__2399 ?_
  refine J_sil (pc := 2400) (q := 9 * j + 1) dL_law__2400 (nI_add _ 1) (by omega) (by omega) ?_
  refine J_cvI (pc := 2401) (N := mX11_count) dL_law__2401 ml_L_248 cf_X11_count cv_X11_count (hM _ _ hP) rfl rfl (Nat.le_of_ble_eq_true rfl) hd2 (rv_of (ci := 11) rfl rfl rfl) (fun y Y hY => ?_)
  obtain ⟨hxy, hI⟩ := hY
  refine J_icmp_eq (pc := 2404) (tgt := 2409) dL_law__2404 (by decide) (fun _ => ?_) (fun c9 => absurd hxy c9)
  exact J_forget (pre5 _) (J_mono (Q' := LQ) (kc' := n) (ks' := 6 * n) (by omega) (by omega) (hend _ _ hI))
theorem and63 (x : Int32) : ∃ k, k < 64 ∧ x &&& 63 = nI k := by
  refine ⟨(x &&& 63).toBitVec.toNat, ?_, ?_⟩
  · have : (x &&& 63).toBitVec.toNat = x.toBitVec.toNat &&& 63 := by
      rw [Int32.toBitVec_and, BitVec.toNat_and]
      rfl
    rw [this]
    exact Nat.lt_succ_of_le Nat.and_le_right
  · apply Int32.toBitVec_inj.mp
    show _ = (Int32.ofNat _).toBitVec
    simp
theorem lw_gt {L j : Nat} (h : L < 9 * j + 9) (hL : 9 * j < 2 ^ 30) : nI L - 9 < nI (9 * j) := by
  by_cases q : 9 ≤ L
  · rw [show (9 : Int32) = nI 9 from rfl, nI_subn q]
    exact nI_lt (by omega) (by omega)
  · have hL9 : L < 9 := by omega
    rw [Int32.lt_iff_toInt_lt, nI_toInt (by omega)]
    have : ∀ L, L < 9 → (nI L - 9).toInt < 0 := by decide
    have := this L hL9
    omega
theorem law_loop {g : Gp} {INV : Sx → Prop} (hL : gV g 11 ≤ 4608) (h_feed : ∀ S, INV S → ∀ x1 x2 x3 x4 x5 : Int32, SP g INV mX10_feed mX11_feed [.int x1, .int x2, .int x3, .int x4, .int x5] S) (h_house : ∀ S, INV S → ∀ x1 : Int32, SW g INV mL_house hL_house mX11_house wI [.int x1] S) (h_law : ∀ S, INV S → ∀ x1 : Int32, SW g INV mL_law hL_law mX11_law wI [.int x1] S) (h_work : ∀ S, INV S → ∀ x1 : Int32, SW g INV mL_work hL_work mX11_work wI [.int x1] S) (h_seen : ∀ S, INV S → ∀ x1 : Int32, SW g INV mL_seen hL_seen mX11_seen wI [.int x1] S) (h_fault : ∀ S, INV S → SP g INV mX10_fault mX11_fault [] S) (h_undo : ∀ S, INV S → SP g INV mX10_undo mX11_undo [] S) (h_told : ∀ S, INV S → ∀ x1 : Int32, SW g INV mL_told hL_told mX11_told wI [.int x1] S) (h_sister : ∀ S, INV S → ∀ x1 x2 : Int32, SW g INV mL_sister hL_sister mX11_sister wI [.int x1, .int x2] S) (h_relic : ∀ S, INV S → ∀ x1 x2 : Int32, SW g INV mL_relic hL_relic mX11_relic wI [.int x1, .int x2] S) (h_pilgrim : ∀ S, INV S → ∀ x1 x2 : Int32, SW g INV mL_pilgrim hL_pilgrim mX11_pilgrim wI [.int x1, .int x2] S) (h_would : ∀ S, INV S → ∀ x1 x2 x3 x4 x5 x6 x7 x8 : Int32, SW g INV mL_would hL_would mX11_would wI [.int x1, .int x2, .int x3, .int x4, .int x5, .int x6, .int x7, .int x8] S) (h_can : ∀ S, INV S → ∀ x1 x2 : Int32, SW g INV mL_can hL_can mX11_can wZ [.int x1, .int x2] S) (h_when : ∀ S, INV S → ∀ x1 x2 : Int32, SW g INV mL_when hL_when mX11_when wI [.int x1, .int x2] S) (h_ahead : ∀ S, INV S → ∀ x1 x2 x3 : Int32, SW g INV mL_ahead hL_ahead mX11_ahead wI [.int x1, .int x2, .int x3] S) (h_match : ∀ S, INV S → SP g INV mX10_match mX11_match [] S) (h_matched : ∀ S, INV S → ∀ x1 : Int32, SW g INV mL_matched hL_matched mX11_matched wI [.int x1] S) (h_lapsed : ∀ S, INV S → ∀ x1 : Int32, SW g INV mL_lapsed hL_lapsed mX11_lapsed wI [.int x1] S) (h_ask : ∀ S, INV S → ∀ x1 : Int32, SW g INV mL_ask hL_ask mX11_ask wI [.int x1] S) (h_best : ∀ S, INV S → ∀ x1 x2 x3 : Int32, SV8 g INV mL_best hL_best mX11_best [.int x1, .int x2, .int x3] S) (h_without : ∀ S, INV S → ∀ x1 x2 x3 : Int32, SV8 g INV mL_without hL_without mX11_without [.int x1, .int x2, .int x3] S) (h_ring : ∀ S, INV S → ∀ x1 : Int32, SW g INV mL_ring hL_ring mX11_ring wI [.int x1] S) (h_follows : ∀ S, INV S → ∀ x1 x2 : Int32, SW g INV mL_follows hL_follows mX11_follows wI [.int x1, .int x2] S) (h_tempted : ∀ S, INV S → ∀ x1 x2 x3 : Int32, SW g INV mL_tempted hL_tempted mX11_tempted wI [.int x1, .int x2, .int x3] S) (h_alms : ∀ S, INV S → ∀ x1 x2 x3 : Int32, SW g INV mL_alms hL_alms mX11_alms wI [.int x1, .int x2, .int x3] S) (h_strongest : ∀ S, INV S → ∀ x1 : Int32, SW g INV mL_strongest hL_strongest mX11_strongest wI [.int x1] S) (h_bare : ∀ S, INV S → SP g INV mX10_bare mX11_bare [] S) (h_hopeless : ∀ S, INV S → ∀ x1 : Int32, SW g INV mL_hopeless hL_hopeless mX11_hopeless wI [.int x1] S) (h_eldest : ∀ S, INV S → ∀ x1 : Int32, SW g INV mL_eldest hL_eldest mX11_eldest wI [.int x1] S) (h_idle : ∀ S, INV S → SP g INV mX10_idle mX11_idle [] S) (h_needs : ∀ S, INV S → ∀ x1 : Int32, SW g INV mL_needs hL_needs mX11_needs wI [.int x1] S) (h_strength : ∀ S, INV S → ∀ x1 : Int32, SW g INV mL_strength hL_strength mX11_strength wI [.int x1] S) (h_weakest : ∀ S, INV S → ∀ x1 : Int32, SW g INV mL_weakest hL_weakest mX11_weakest wI [.int x1] S) (h_year : ∀ S, INV S → ∀ x1 x2 x3 : Int32, SW g INV mL_year hL_year mX11_year wI [.int x1, .int x2, .int x3] S) (h_span : ∀ S, INV S → ∀ x1 x2 x3 x4 x5 : Int32, SW g INV mL_span hL_span mX11_span wI [.int x1, .int x2, .int x3, .int x4, .int x5] S) (h_image : ∀ S, INV S → SP g INV mX10_image mX11_image [] S) (h_restore : ∀ S, INV S → SP g INV mX10_restore mX11_restore [] S) (h_status : ∀ S, INV S → ∀ x1 : Int32, SP g INV mX10_status mX11_status [.int x1] S) (h_count : ∀ S, INV S → ∀ x1 : Int32, SP g INV mX10_count mX11_count [.int x1] S) : ∀ (n j sz : Nat) (S : Sx), INV S → gV g 11 ≤ 9 * j + 9 * n + 8 → 9 * j ≤ 4617 → J g mLW 60 [] 23 (l8 j) [] (hs S) sz n (6 * n) LQ := by
  intro n
  induction n with
  | zero =>
    intro j sz S hI hn hj
    refine J_iload (pc := 23) dL_law__23 rfl ?_
    refine J_aload_n (pc := 25) dL_law__25 rfl ?_
    refine J_sal (pc := 26) dL_law__26 rfl ?_
    refine J_bipush (pc := 27) (v := 9) dL_law__27 (by decide) ?_
    refine J_isub (pc := 29) dL_law__29 ?_
    refine J_icmp_gt (pc := 30) (tgt := 2415) dL_law__30 (by decide) (fun _ => ?_) (fun c9 => absurd (lw_gt (by omega) (by omega)) c9)
    refine J_iconst (pc := 2415) (v := 1) dL_law__2415 (by decide) ?_
    exact J_lwret (pc := 2416) rfl rfl dL_law__2416 rfl
  | succ n ih =>
    intro j sz S hI hn hj
    refine J_iload (pc := 23) dL_law__23 rfl ?_
    refine J_aload_n (pc := 25) dL_law__25 rfl ?_
    refine J_sal (pc := 26) dL_law__26 rfl ?_
    refine J_bipush (pc := 27) (v := 9) dL_law__27 (by decide) ?_
    refine J_isub (pc := 29) dL_law__29 ?_
    refine J_icmp_gt (pc := 30) (tgt := 2415) dL_law__30 (by decide) (fun _ => ?_) (fun c9 => ?_)
    · refine J_iconst (pc := 2415) (v := 1) dL_law__2415 (by decide) ?_
      exact J_lwret (pc := 2416) rfl rfl dL_law__2416 rfl
    have hj9 : 9 * j + 9 ≤ gV g 11 := Nat.not_lt.mp (fun q => c9 (lw_gt q (by omega)))
    have hend : ∀ S' sz', INV S' → J g mLW 60 [] 2409 (l5 j) [] (hs S') sz' n (6 * n) LQ := by
      intro S' sz' hI'
      refine J_iinc (pc := 2409) (v := 9) dL_law__2409 rfl (by decide) rfl ?_
      refine J_goto (pc := 2412) (tgt := 23) dL_law__2412 (by decide) ?_
      have e9 : nI (9 * j) + 9 = nI (9 * (j + 1)) := nI_add (9 * j) 9
      refine J_cg1 (ls' := l5 (j + 1)) (congrArg (fun z => [some (Value.ref (SB + 110)), some (.ref 0), some (.ref 59), some (.ref 562), some (.int z)]) e9) ?_
      exact J_forget (fun i v h => by
        match i, h with
        | 0, h => exact h
        | 1, h => exact h
        | 2, h => exact h
        | 3, h => exact h
        | 4, h => exact h
        | 5, h => simp at h
        | 6, h => simp at h
        | 7, h => simp at h
        | n + 8, h => simp at h) (ih (j + 1) sz' S' hI' (by omega) (by omega))
    refine J_aload_n (pc := 33) dL_law__33 rfl ?_
    refine J_iload (pc := 34) dL_law__34 rfl ?_
    refine J_sil (pc := 36) (q := 9 * j) dL_law__36 rfl (by omega) (by omega) ?_
    refine J_bipush (pc := 37) (v := 63) dL_law__37 (by decide) ?_
    refine J_iand (pc := 39) dL_law__39 ?_
    obtain ⟨k, hk, ek⟩ := and63 (xsG g (9 * j))
    refine J_t1 ek ?_
    rcases (show k = 0 ∨ k = 1 ∨ k = 2 ∨ k = 3 ∨ k = 4 ∨ k = 5 ∨ k = 6 ∨ k = 7 ∨ k = 8 ∨ k = 9 ∨ k = 10 ∨ k = 11 ∨ k = 12 ∨ k = 13 ∨ k = 14 ∨ k = 15 ∨ k = 16 ∨ k = 17 ∨ k = 18 ∨ k = 19 ∨ k = 20 ∨ k = 21 ∨ k = 22 ∨ k = 23 ∨ k = 24 ∨ k = 25 ∨ k = 26 ∨ k = 27 ∨ k = 28 ∨ k = 29 ∨ k = 30 ∨ k = 31 ∨ k = 32 ∨ k = 33 ∨ k = 34 ∨ k = 35 ∨ k = 36 ∨ k = 37 ∨ k = 38 ∨ 39 ≤ k by omega) with rfl | rfl | rfl | rfl | rfl | rfl | rfl | rfl | rfl | rfl | rfl | rfl | rfl | rfl | rfl | rfl | rfl | rfl | rfl | rfl | rfl | rfl | rfl | rfl | rfl | rfl | rfl | rfl | rfl | rfl | rfl | rfl | rfl | rfl | rfl | rfl | rfl | rfl | rfl | hk9
    · refine J_tableIn (off := 172) (tgt := 212) dL_law__40 (by decide) (by decide) (by decide) (by decide) ?_
      exact lw_feed hL hj9 (h_feed S hI _ _ _ _ _) hend
    · refine J_tableIn (off := 245) (tgt := 285) dL_law__40 (by decide) (by decide) (by decide) (by decide) ?_
      exact lw_house hL hj9 (h_house S hI _) hend
    · refine J_tableIn (off := 301) (tgt := 341) dL_law__40 (by decide) (by decide) (by decide) (by decide) ?_
      exact lw_law hL hj9 (h_law S hI _) hend
    · refine J_tableIn (off := 357) (tgt := 397) dL_law__40 (by decide) (by decide) (by decide) (by decide) ?_
      exact lw_work hL hj9 (h_work S hI _) hend
    · refine J_tableIn (off := 413) (tgt := 453) dL_law__40 (by decide) (by decide) (by decide) (by decide) ?_
      exact lw_seen hL hj9 (h_seen S hI _) hend
    · refine J_tableIn (off := 469) (tgt := 509) dL_law__40 (by decide) (by decide) (by decide) (by decide) ?_
      exact lw_fault hL hj9 (h_fault S hI) hend
    · refine J_tableIn (off := 482) (tgt := 522) dL_law__40 (by decide) (by decide) (by decide) (by decide) ?_
      exact lw_undo hL hj9 (h_undo S hI) hend
    · refine J_tableIn (off := 495) (tgt := 535) dL_law__40 (by decide) (by decide) (by decide) (by decide) ?_
      exact lw_told hL hj9 (h_told S hI _) hend
    · refine J_tableIn (off := 551) (tgt := 591) dL_law__40 (by decide) (by decide) (by decide) (by decide) ?_
      exact lw_sister hL hj9 (h_sister S hI _ _) hend
    · refine J_tableIn (off := 619) (tgt := 659) dL_law__40 (by decide) (by decide) (by decide) (by decide) ?_
      exact lw_relic hL hj9 (h_relic S hI _ _) hend
    · refine J_tableIn (off := 687) (tgt := 727) dL_law__40 (by decide) (by decide) (by decide) (by decide) ?_
      exact lw_pilgrim hL hj9 (h_pilgrim S hI _ _) hend
    · refine J_tableIn (off := 755) (tgt := 795) dL_law__40 (by decide) (by decide) (by decide) (by decide) ?_
      exact lw_would hL hj9 (h_would S hI _ _ _ _ _ _ _ _) hend
    · refine J_tableIn (off := 901) (tgt := 941) dL_law__40 (by decide) (by decide) (by decide) (by decide) ?_
      exact lw_can hL hj9 (h_can S hI _ _) hend
    · refine J_tableIn (off := 976) (tgt := 1016) dL_law__40 (by decide) (by decide) (by decide) (by decide) ?_
      exact lw_when hL hj9 (h_when S hI _ _) hend
    · refine J_tableIn (off := 1044) (tgt := 1084) dL_law__40 (by decide) (by decide) (by decide) (by decide) ?_
      exact lw_ahead hL hj9 (h_ahead S hI _ _ _) hend
    · refine J_tableIn (off := 1124) (tgt := 1164) dL_law__40 (by decide) (by decide) (by decide) (by decide) ?_
      exact lw_match hL hj9 (h_match S hI) hend
    · refine J_tableIn (off := 1137) (tgt := 1177) dL_law__40 (by decide) (by decide) (by decide) (by decide) ?_
      exact lw_matched hL hj9 (h_matched S hI _) hend
    · refine J_tableIn (off := 1193) (tgt := 1233) dL_law__40 (by decide) (by decide) (by decide) (by decide) ?_
      exact lw_lapsed hL hj9 (h_lapsed S hI _) hend
    · refine J_tableIn (off := 1249) (tgt := 1289) dL_law__40 (by decide) (by decide) (by decide) (by decide) ?_
      exact lw_ask hL hj9 (h_ask S hI _) hend
    · refine J_tableIn (off := 1305) (tgt := 1345) dL_law__40 (by decide) (by decide) (by decide) (by decide) ?_
      exact lw_best hL hj9 (h_best S hI _ _ _) hend
    · refine J_tableIn (off := 1384) (tgt := 1424) dL_law__40 (by decide) (by decide) (by decide) (by decide) ?_
      exact lw_without hL hj9 (h_without S hI _ _ _) hend
    · refine J_tableIn (off := 1463) (tgt := 1503) dL_law__40 (by decide) (by decide) (by decide) (by decide) ?_
      exact lw_ring hL hj9 (h_ring S hI _) hend
    · refine J_tableIn (off := 1519) (tgt := 1559) dL_law__40 (by decide) (by decide) (by decide) (by decide) ?_
      exact lw_follows hL hj9 (h_follows S hI _ _) hend
    · refine J_tableIn (off := 1587) (tgt := 1627) dL_law__40 (by decide) (by decide) (by decide) (by decide) ?_
      exact lw_tempted hL hj9 (h_tempted S hI _ _ _) hend
    · refine J_tableIn (off := 1667) (tgt := 1707) dL_law__40 (by decide) (by decide) (by decide) (by decide) ?_
      exact lw_alms hL hj9 (h_alms S hI _ _ _) hend
    · refine J_tableIn (off := 1747) (tgt := 1787) dL_law__40 (by decide) (by decide) (by decide) (by decide) ?_
      exact lw_strongest hL hj9 (h_strongest S hI _) hend
    · refine J_tableIn (off := 1803) (tgt := 1843) dL_law__40 (by decide) (by decide) (by decide) (by decide) ?_
      exact lw_bare hL hj9 (h_bare S hI) hend
    · refine J_tableIn (off := 1816) (tgt := 1856) dL_law__40 (by decide) (by decide) (by decide) (by decide) ?_
      exact lw_hopeless hL hj9 (h_hopeless S hI _) hend
    · refine J_tableIn (off := 1872) (tgt := 1912) dL_law__40 (by decide) (by decide) (by decide) (by decide) ?_
      exact lw_eldest hL hj9 (h_eldest S hI _) hend
    · refine J_tableIn (off := 1928) (tgt := 1968) dL_law__40 (by decide) (by decide) (by decide) (by decide) ?_
      exact lw_idle hL hj9 (h_idle S hI) hend
    · refine J_tableIn (off := 1941) (tgt := 1981) dL_law__40 (by decide) (by decide) (by decide) (by decide) ?_
      exact lw_needs hL hj9 (h_needs S hI _) hend
    · refine J_tableIn (off := 1997) (tgt := 2037) dL_law__40 (by decide) (by decide) (by decide) (by decide) ?_
      exact lw_strength hL hj9 (h_strength S hI _) hend
    · refine J_tableIn (off := 2053) (tgt := 2093) dL_law__40 (by decide) (by decide) (by decide) (by decide) ?_
      exact lw_weakest hL hj9 (h_weakest S hI _) hend
    · refine J_tableIn (off := 2109) (tgt := 2149) dL_law__40 (by decide) (by decide) (by decide) (by decide) ?_
      exact lw_year hL hj9 (h_year S hI _ _ _) hend
    · refine J_tableIn (off := 2189) (tgt := 2229) dL_law__40 (by decide) (by decide) (by decide) (by decide) ?_
      exact lw_span hL hj9 (h_span S hI _ _ _ _ _) hend
    · refine J_tableIn (off := 2293) (tgt := 2333) dL_law__40 (by decide) (by decide) (by decide) (by decide) ?_
      exact lw_image hL hj9 (h_image S hI) hend
    · refine J_tableIn (off := 2306) (tgt := 2346) dL_law__40 (by decide) (by decide) (by decide) (by decide) ?_
      exact lw_restore hL hj9 (h_restore S hI) hend
    · refine J_tableIn (off := 2319) (tgt := 2359) dL_law__40 (by decide) (by decide) (by decide) (by decide) ?_
      exact lw_status hL hj9 (h_status S hI _) hend
    · refine J_tableIn (off := 2344) (tgt := 2384) dL_law__40 (by decide) (by decide) (by decide) (by decide) ?_
      exact lw_count hL hj9 (h_count S hI _) hend
    · refine J_tableOut (tgt := 2409) dL_law__40 (Or.inr ?_) (by decide) ?_
      · rw [nI_toInt (by omega)]
        omega
      · exact J_forget (pre5 _) (J_mono (Q' := LQ) (kc' := n) (ks' := 6 * n) (by omega) (by omega) (hend S sz hI))
