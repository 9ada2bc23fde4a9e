/-! ===== the first state ===== -/
def hE : AH := fun _ => none
def hF1 : AH := kX10i (hup hE 0 (.inr (10, [.null, .null, .null, .null, .null, .null, .null, .null, .null, .null, .null, .null, .null, .int 0, .int 0, .int 0])))
def hF2 : AH := kX11i (hup hF1 59 (.inr (11, [.int 0, .int 0, .int 0, .int 0, .int 0, .int 0, .int 0, .int 0, .int 0, .null, .null, .null, .null, .null, .null, .null, .null, .null, .null, .null, .null, .int 0, .int 0, .null, .null, .null, .null, .null, .null, .null, .int 0, .null, .null, .null, .null, .int 0, .int 0, .int 0, .int 0, .int 0, .int 0, .int 0, .null, .null, .null, .null, .int 0, .int 0, .int 0])))
def hIni : AH := hup hF2 562 (.inl (2, 1, .inr (.inl (fun _ => 0))))
def z14 : Nat → Int32 := (upd (upd (upd (upd (upd (upd (upd (upd (upd (upd (upd (upd (upd (upd (fun _ => 0) (0 : Int32).toNatClampNeg 1000) (1 : Int32).toNatClampNeg 1001) (2 : Int32).toNatClampNeg 2000) (3 : Int32).toNatClampNeg 1002) (4 : Int32).toNatClampNeg 2) (5 : Int32).toNatClampNeg 2002) (6 : Int32).toNatClampNeg 2001) (0 : Int32).toNatClampNeg 1000) (1 : Int32).toNatClampNeg 1001) (2 : Int32).toNatClampNeg 2000) (3 : Int32).toNatClampNeg 1002) (4 : Int32).toNatClampNeg 2) (5 : Int32).toNatClampNeg 2002) (6 : Int32).toNatClampNeg 2001)
def z16 : Nat → Int32 := (upd (fillN (fun _ => 0) (fun i => if i < 23 then 0 else -1) 0 31) (1 : Int32).toNatClampNeg 0)
def z30 : Nat → Int32 := (upd (fillN (fun _ => 0) (fun i => if i < 23 then 0 else -1) 0 31) (1 : Int32).toNatClampNeg 0)
def z38 : Nat → Int32 := (fillN (fun _ => 0) (fun _ => -1) 0 10)
def z52 : Nat → Int32 := (fillN (fun _ => 0) (fun _ => -1) 0 10)
def z62 : Nat → Int32 := (fillN (fun _ => 0) (fun _ => 0) 0 3)
def z63 : Nat → Int32 := (fillN (fun _ => 0) (fillN (fun _ => 0) (fun _ => 0) 0 3) 0 3)
def z65 : Nat → Int32 := (fillN (fun _ => 0) (fun _ => 0) 0 8)
def z66 : Nat → Int32 := (fillN (fun _ => 0) (fun _ => -1) 0 8)
def z67 : Nat → Int32 := (fillN (fun _ => 0) (fillN (fun _ => 0) (fun _ => -1) 0 8) 0 8)
def z535 : Nat → Int32 := (fillN (fillN (fillN (fun _ => 0) (fun _ => 0) 0 45) (fun _ => -1) 16 10) (fun _ => -1) 36 8)
def S00 : Sx := (fun a k => if a = 1 ∧ k = 6 then (-1) else if a = 13 ∧ k = 2 then 7 else if a = 32 ∧ k = 0 then 16 else if a = 32 ∧ k = 1 then 31 else if a = 34 ∧ k = 0 then 3 else if a = 34 ∧ k = 1 then 31 else if a = 53 ∧ k = 0 then 16 else if a = 53 ∧ k = 1 then 31 else if a = 55 ∧ k = 0 then 16 else if a = 55 ∧ k = 1 then 31 else if a = 57 ∧ k = 0 then 16 else if a = 57 ∧ k = 1 then 31 else if a = 59 ∧ k = 3 then (-1) else 0, fun a k => if a = 0 ∧ k = 9 then 37 else if a = 0 ∧ k = 10 then 39 else if a = 0 ∧ k = 11 then 48 else if a = 0 ∧ k = 12 then 51 else if a = 3 ∧ k = 2 then 4 else if a = 3 ∧ k = 3 then 13 else if a = 29 ∧ k = 2 then 4 else if a = 29 ∧ k = 3 then 13 else 0, fun a => if a = 14 then z14 else if a = 16 then z16 else if a = 30 then z30 else if a = 38 then z38 else if a = 52 then z52 else if a = 62 then z62 else if a = 63 then z63 else if a = 65 then z65 else if a = 66 then z66 else if a = 67 then z67 else if a = 535 then z535 else (fun _ => 0), fun _ => 0, fun _ _ => 0)
theorem stP {P : Nat → Prop} {n : Nat} (h : ∀ a, a < n → P a) (q : P n) : ∀ a, a < n + 1 → P a := fun a ha => (Nat.lt_succ_iff_lt_or_eq.mp ha).elim (h a) (fun e => e ▸ q)
abbrev PI (a : Nat) : Prop := hIni a = hs S00 a
theorem ini_0 : ∀ a, a < 0 → PI a := fun a h => absurd h (Nat.not_lt_zero a)
theorem ini_r36 : PI 36 := by
  have e : (va_up (va_up (va_up (fun _ => none) (0 : Int32).toNatClampNeg (some 53)) (1 : Int32).toNatClampNeg (some 55)) (2 : Int32).toNatClampNeg (some 57) : Nat → Option Nat) = (fun i => if i < 3 then some (53 + 2 * i) else none) := by
    funext i
    match i with
    | 0 => rfl
    | 1 => rfl
    | 2 => rfl
    | n + 3 =>
      rw [if_neg (by omega)]
      simp [va_up]
  exact congrArg (fun f => (some (Sum.inl (3, 3, .inr (.inr (.inr (.inr f))))) : Option AE)) e
set_option maxRecDepth 20000 in
theorem ini_20 : ∀ a, a < 20 → PI a := stP (stP (stP (stP (stP (stP (stP (stP (stP (stP (stP (stP (stP (stP (stP (stP (stP (stP (stP (stP ini_0 (n := 0) rfl) (n := 1) rfl) (n := 2) rfl) (n := 3) rfl) (n := 4) rfl) (n := 5) rfl) (n := 6) rfl) (n := 7) rfl) (n := 8) rfl) (n := 9) rfl) (n := 10) rfl) (n := 11) rfl) (n := 12) rfl) (n := 13) rfl) (n := 14) rfl) (n := 15) rfl) (n := 16) rfl) (n := 17) rfl) (n := 18) rfl) (n := 19) rfl
set_option maxRecDepth 20000 in
theorem ini_40 : ∀ a, a < 40 → PI a := stP (stP (stP (stP (stP (stP (stP (stP (stP (stP (stP (stP (stP (stP (stP (stP (stP (stP (stP (stP ini_20 (n := 20) rfl) (n := 21) rfl) (n := 22) rfl) (n := 23) rfl) (n := 24) rfl) (n := 25) rfl) (n := 26) rfl) (n := 27) rfl) (n := 28) rfl) (n := 29) rfl) (n := 30) rfl) (n := 31) rfl) (n := 32) rfl) (n := 33) rfl) (n := 34) rfl) (n := 35) rfl) (n := 36) ini_r36) (n := 37) rfl) (n := 38) rfl) (n := 39) rfl
set_option maxRecDepth 20000 in
theorem ini_60 : ∀ a, a < 60 → PI a := stP (stP (stP (stP (stP (stP (stP (stP (stP (stP (stP (stP (stP (stP (stP (stP (stP (stP (stP (stP ini_40 (n := 40) rfl) (n := 41) rfl) (n := 42) rfl) (n := 43) rfl) (n := 44) rfl) (n := 45) rfl) (n := 46) rfl) (n := 47) rfl) (n := 48) rfl) (n := 49) rfl) (n := 50) rfl) (n := 51) rfl) (n := 52) rfl) (n := 53) rfl) (n := 54) rfl) (n := 55) rfl) (n := 56) rfl) (n := 57) rfl) (n := 58) rfl) (n := 59) rfl
set_option maxRecDepth 20000 in
theorem ini_80 : ∀ a, a < 80 → PI a := stP (stP (stP (stP (stP (stP (stP (stP (stP (stP (stP (stP (stP (stP (stP (stP (stP (stP (stP (stP ini_60 (n := 60) rfl) (n := 61) rfl) (n := 62) rfl) (n := 63) rfl) (n := 64) rfl) (n := 65) rfl) (n := 66) rfl) (n := 67) rfl) (n := 68) rfl) (n := 69) rfl) (n := 70) rfl) (n := 71) rfl) (n := 72) rfl) (n := 73) rfl) (n := 74) rfl) (n := 75) rfl) (n := 76) rfl) (n := 77) rfl) (n := 78) rfl) (n := 79) rfl
set_option maxRecDepth 20000 in
theorem ini_100 : ∀ a, a < 100 → PI a := stP (stP (stP (stP (stP (stP (stP (stP (stP (stP (stP (stP (stP (stP (stP (stP (stP (stP (stP (stP ini_80 (n := 80) rfl) (n := 81) rfl) (n := 82) rfl) (n := 83) rfl) (n := 84) rfl) (n := 85) rfl) (n := 86) rfl) (n := 87) rfl) (n := 88) rfl) (n := 89) rfl) (n := 90) rfl) (n := 91) rfl) (n := 92) rfl) (n := 93) rfl) (n := 94) rfl) (n := 95) rfl) (n := 96) rfl) (n := 97) rfl) (n := 98) rfl) (n := 99) rfl
set_option maxRecDepth 20000 in
theorem ini_120 : ∀ a, a < 120 → PI a := stP (stP (stP (stP (stP (stP (stP (stP (stP (stP (stP (stP (stP (stP (stP (stP (stP (stP (stP (stP ini_100 (n := 100) rfl) (n := 101) rfl) (n := 102) rfl) (n := 103) rfl) (n := 104) rfl) (n := 105) rfl) (n := 106) rfl) (n := 107) rfl) (n := 108) rfl) (n := 109) rfl) (n := 110) rfl) (n := 111) rfl) (n := 112) rfl) (n := 113) rfl) (n := 114) rfl) (n := 115) rfl) (n := 116) rfl) (n := 117) rfl) (n := 118) rfl) (n := 119) rfl
set_option maxRecDepth 20000 in
theorem ini_140 : ∀ a, a < 140 → PI a := stP (stP (stP (stP (stP (stP (stP (stP (stP (stP (stP (stP (stP (stP (stP (stP (stP (stP (stP (stP ini_120 (n := 120) rfl) (n := 121) rfl) (n := 122) rfl) (n := 123) rfl) (n := 124) rfl) (n := 125) rfl) (n := 126) rfl) (n := 127) rfl) (n := 128) rfl) (n := 129) rfl) (n := 130) rfl) (n := 131) rfl) (n := 132) rfl) (n := 133) rfl) (n := 134) rfl) (n := 135) rfl) (n := 136) rfl) (n := 137) rfl) (n := 138) rfl) (n := 139) rfl
set_option maxRecDepth 20000 in
theorem ini_160 : ∀ a, a < 160 → PI a := stP (stP (stP (stP (stP (stP (stP (stP (stP (stP (stP (stP (stP (stP (stP (stP (stP (stP (stP (stP ini_140 (n := 140) rfl) (n := 141) rfl) (n := 142) rfl) (n := 143) rfl) (n := 144) rfl) (n := 145) rfl) (n := 146) rfl) (n := 147) rfl) (n := 148) rfl) (n := 149) rfl) (n := 150) rfl) (n := 151) rfl) (n := 152) rfl) (n := 153) rfl) (n := 154) rfl) (n := 155) rfl) (n := 156) rfl) (n := 157) rfl) (n := 158) rfl) (n := 159) rfl
set_option maxRecDepth 20000 in
theorem ini_180 : ∀ a, a < 180 → PI a := stP (stP (stP (stP (stP (stP (stP (stP (stP (stP (stP (stP (stP (stP (stP (stP (stP (stP (stP (stP ini_160 (n := 160) rfl) (n := 161) rfl) (n := 162) rfl) (n := 163) rfl) (n := 164) rfl) (n := 165) rfl) (n := 166) rfl) (n := 167) rfl) (n := 168) rfl) (n := 169) rfl) (n := 170) rfl) (n := 171) rfl) (n := 172) rfl) (n := 173) rfl) (n := 174) rfl) (n := 175) rfl) (n := 176) rfl) (n := 177) rfl) (n := 178) rfl) (n := 179) rfl
set_option maxRecDepth 20000 in
theorem ini_200 : ∀ a, a < 200 → PI a := stP (stP (stP (stP (stP (stP (stP (stP (stP (stP (stP (stP (stP (stP (stP (stP (stP (stP (stP (stP ini_180 (n := 180) rfl) (n := 181) rfl) (n := 182) rfl) (n := 183) rfl) (n := 184) rfl) (n := 185) rfl) (n := 186) rfl) (n := 187) rfl) (n := 188) rfl) (n := 189) rfl) (n := 190) rfl) (n := 191) rfl) (n := 192) rfl) (n := 193) rfl) (n := 194) rfl) (n := 195) rfl) (n := 196) rfl) (n := 197) rfl) (n := 198) rfl) (n := 199) rfl
set_option maxRecDepth 20000 in
theorem ini_220 : ∀ a, a < 220 → PI a := stP (stP (stP (stP (stP (stP (stP (stP (stP (stP (stP (stP (stP (stP (stP (stP (stP (stP (stP (stP ini_200 (n := 200) rfl) (n := 201) rfl) (n := 202) rfl) (n := 203) rfl) (n := 204) rfl) (n := 205) rfl) (n := 206) rfl) (n := 207) rfl) (n := 208) rfl) (n := 209) rfl) (n := 210) rfl) (n := 211) rfl) (n := 212) rfl) (n := 213) rfl) (n := 214) rfl) (n := 215) rfl) (n := 216) rfl) (n := 217) rfl) (n := 218) rfl) (n := 219) rfl
set_option maxRecDepth 20000 in
theorem ini_240 : ∀ a, a < 240 → PI a := stP (stP (stP (stP (stP (stP (stP (stP (stP (stP (stP (stP (stP (stP (stP (stP (stP (stP (stP (stP ini_220 (n := 220) rfl) (n := 221) rfl) (n := 222) rfl) (n := 223) rfl) (n := 224) rfl) (n := 225) rfl) (n := 226) rfl) (n := 227) rfl) (n := 228) rfl) (n := 229) rfl) (n := 230) rfl) (n := 231) rfl) (n := 232) rfl) (n := 233) rfl) (n := 234) rfl) (n := 235) rfl) (n := 236) rfl) (n := 237) rfl) (n := 238) rfl) (n := 239) rfl
set_option maxRecDepth 20000 in
theorem ini_260 : ∀ a, a < 260 → PI a := stP (stP (stP (stP (stP (stP (stP (stP (stP (stP (stP (stP (stP (stP (stP (stP (stP (stP (stP (stP ini_240 (n := 240) rfl) (n := 241) rfl) (n := 242) rfl) (n := 243) rfl) (n := 244) rfl) (n := 245) rfl) (n := 246) rfl) (n := 247) rfl) (n := 248) rfl) (n := 249) rfl) (n := 250) rfl) (n := 251) rfl) (n := 252) rfl) (n := 253) rfl) (n := 254) rfl) (n := 255) rfl) (n := 256) rfl) (n := 257) rfl) (n := 258) rfl) (n := 259) rfl
set_option maxRecDepth 20000 in
theorem ini_280 : ∀ a, a < 280 → PI a := stP (stP (stP (stP (stP (stP (stP (stP (stP (stP (stP (stP (stP (stP (stP (stP (stP (stP (stP (stP ini_260 (n := 260) rfl) (n := 261) rfl) (n := 262) rfl) (n := 263) rfl) (n := 264) rfl) (n := 265) rfl) (n := 266) rfl) (n := 267) rfl) (n := 268) rfl) (n := 269) rfl) (n := 270) rfl) (n := 271) rfl) (n := 272) rfl) (n := 273) rfl) (n := 274) rfl) (n := 275) rfl) (n := 276) rfl) (n := 277) rfl) (n := 278) rfl) (n := 279) rfl
set_option maxRecDepth 20000 in
theorem ini_300 : ∀ a, a < 300 → PI a := stP (stP (stP (stP (stP (stP (stP (stP (stP (stP (stP (stP (stP (stP (stP (stP (stP (stP (stP (stP ini_280 (n := 280) rfl) (n := 281) rfl) (n := 282) rfl) (n := 283) rfl) (n := 284) rfl) (n := 285) rfl) (n := 286) rfl) (n := 287) rfl) (n := 288) rfl) (n := 289) rfl) (n := 290) rfl) (n := 291) rfl) (n := 292) rfl) (n := 293) rfl) (n := 294) rfl) (n := 295) rfl) (n := 296) rfl) (n := 297) rfl) (n := 298) rfl) (n := 299) rfl
set_option maxRecDepth 20000 in
theorem ini_320 : ∀ a, a < 320 → PI a := stP (stP (stP (stP (stP (stP (stP (stP (stP (stP (stP (stP (stP (stP (stP (stP (stP (stP (stP (stP ini_300 (n := 300) rfl) (n := 301) rfl) (n := 302) rfl) (n := 303) rfl) (n := 304) rfl) (n := 305) rfl) (n := 306) rfl) (n := 307) rfl) (n := 308) rfl) (n := 309) rfl) (n := 310) rfl) (n := 311) rfl) (n := 312) rfl) (n := 313) rfl) (n := 314) rfl) (n := 315) rfl) (n := 316) rfl) (n := 317) rfl) (n := 318) rfl) (n := 319) rfl
set_option maxRecDepth 20000 in
theorem ini_340 : ∀ a, a < 340 → PI a := stP (stP (stP (stP (stP (stP (stP (stP (stP (stP (stP (stP (stP (stP (stP (stP (stP (stP (stP (stP ini_320 (n := 320) rfl) (n := 321) rfl) (n := 322) rfl) (n := 323) rfl) (n := 324) rfl) (n := 325) rfl) (n := 326) rfl) (n := 327) rfl) (n := 328) rfl) (n := 329) rfl) (n := 330) rfl) (n := 331) rfl) (n := 332) rfl) (n := 333) rfl) (n := 334) rfl) (n := 335) rfl) (n := 336) rfl) (n := 337) rfl) (n := 338) rfl) (n := 339) rfl
set_option maxRecDepth 20000 in
theorem ini_360 : ∀ a, a < 360 → PI a := stP (stP (stP (stP (stP (stP (stP (stP (stP (stP (stP (stP (stP (stP (stP (stP (stP (stP (stP (stP ini_340 (n := 340) rfl) (n := 341) rfl) (n := 342) rfl) (n := 343) rfl) (n := 344) rfl) (n := 345) rfl) (n := 346) rfl) (n := 347) rfl) (n := 348) rfl) (n := 349) rfl) (n := 350) rfl) (n := 351) rfl) (n := 352) rfl) (n := 353) rfl) (n := 354) rfl) (n := 355) rfl) (n := 356) rfl) (n := 357) rfl) (n := 358) rfl) (n := 359) rfl
set_option maxRecDepth 20000 in
theorem ini_380 : ∀ a, a < 380 → PI a := stP (stP (stP (stP (stP (stP (stP (stP (stP (stP (stP (stP (stP (stP (stP (stP (stP (stP (stP (stP ini_360 (n := 360) rfl) (n := 361) rfl) (n := 362) rfl) (n := 363) rfl) (n := 364) rfl) (n := 365) rfl) (n := 366) rfl) (n := 367) rfl) (n := 368) rfl) (n := 369) rfl) (n := 370) rfl) (n := 371) rfl) (n := 372) rfl) (n := 373) rfl) (n := 374) rfl) (n := 375) rfl) (n := 376) rfl) (n := 377) rfl) (n := 378) rfl) (n := 379) rfl
set_option maxRecDepth 20000 in
theorem ini_400 : ∀ a, a < 400 → PI a := stP (stP (stP (stP (stP (stP (stP (stP (stP (stP (stP (stP (stP (stP (stP (stP (stP (stP (stP (stP ini_380 (n := 380) rfl) (n := 381) rfl) (n := 382) rfl) (n := 383) rfl) (n := 384) rfl) (n := 385) rfl) (n := 386) rfl) (n := 387) rfl) (n := 388) rfl) (n := 389) rfl) (n := 390) rfl) (n := 391) rfl) (n := 392) rfl) (n := 393) rfl) (n := 394) rfl) (n := 395) rfl) (n := 396) rfl) (n := 397) rfl) (n := 398) rfl) (n := 399) rfl
set_option maxRecDepth 20000 in
theorem ini_420 : ∀ a, a < 420 → PI a := stP (stP (stP (stP (stP (stP (stP (stP (stP (stP (stP (stP (stP (stP (stP (stP (stP (stP (stP (stP ini_400 (n := 400) rfl) (n := 401) rfl) (n := 402) rfl) (n := 403) rfl) (n := 404) rfl) (n := 405) rfl) (n := 406) rfl) (n := 407) rfl) (n := 408) rfl) (n := 409) rfl) (n := 410) rfl) (n := 411) rfl) (n := 412) rfl) (n := 413) rfl) (n := 414) rfl) (n := 415) rfl) (n := 416) rfl) (n := 417) rfl) (n := 418) rfl) (n := 419) rfl
set_option maxRecDepth 20000 in
theorem ini_440 : ∀ a, a < 440 → PI a := stP (stP (stP (stP (stP (stP (stP (stP (stP (stP (stP (stP (stP (stP (stP (stP (stP (stP (stP (stP ini_420 (n := 420) rfl) (n := 421) rfl) (n := 422) rfl) (n := 423) rfl) (n := 424) rfl) (n := 425) rfl) (n := 426) rfl) (n := 427) rfl) (n := 428) rfl) (n := 429) rfl) (n := 430) rfl) (n := 431) rfl) (n := 432) rfl) (n := 433) rfl) (n := 434) rfl) (n := 435) rfl) (n := 436) rfl) (n := 437) rfl) (n := 438) rfl) (n := 439) rfl
set_option maxRecDepth 20000 in
theorem ini_460 : ∀ a, a < 460 → PI a := stP (stP (stP (stP (stP (stP (stP (stP (stP (stP (stP (stP (stP (stP (stP (stP (stP (stP (stP (stP ini_440 (n := 440) rfl) (n := 441) rfl) (n := 442) rfl) (n := 443) rfl) (n := 444) rfl) (n := 445) rfl) (n := 446) rfl) (n := 447) rfl) (n := 448) rfl) (n := 449) rfl) (n := 450) rfl) (n := 451) rfl) (n := 452) rfl) (n := 453) rfl) (n := 454) rfl) (n := 455) rfl) (n := 456) rfl) (n := 457) rfl) (n := 458) rfl) (n := 459) rfl
set_option maxRecDepth 20000 in
theorem ini_480 : ∀ a, a < 480 → PI a := stP (stP (stP (stP (stP (stP (stP (stP (stP (stP (stP (stP (stP (stP (stP (stP (stP (stP (stP (stP ini_460 (n := 460) rfl) (n := 461) rfl) (n := 462) rfl) (n := 463) rfl) (n := 464) rfl) (n := 465) rfl) (n := 466) rfl) (n := 467) rfl) (n := 468) rfl) (n := 469) rfl) (n := 470) rfl) (n := 471) rfl) (n := 472) rfl) (n := 473) rfl) (n := 474) rfl) (n := 475) rfl) (n := 476) rfl) (n := 477) rfl) (n := 478) rfl) (n := 479) rfl
set_option maxRecDepth 20000 in
theorem ini_500 : ∀ a, a < 500 → PI a := stP (stP (stP (stP (stP (stP (stP (stP (stP (stP (stP (stP (stP (stP (stP (stP (stP (stP (stP (stP ini_480 (n := 480) rfl) (n := 481) rfl) (n := 482) rfl) (n := 483) rfl) (n := 484) rfl) (n := 485) rfl) (n := 486) rfl) (n := 487) rfl) (n := 488) rfl) (n := 489) rfl) (n := 490) rfl) (n := 491) rfl) (n := 492) rfl) (n := 493) rfl) (n := 494) rfl) (n := 495) rfl) (n := 496) rfl) (n := 497) rfl) (n := 498) rfl) (n := 499) rfl
set_option maxRecDepth 20000 in
theorem ini_520 : ∀ a, a < 520 → PI a := stP (stP (stP (stP (stP (stP (stP (stP (stP (stP (stP (stP (stP (stP (stP (stP (stP (stP (stP (stP ini_500 (n := 500) rfl) (n := 501) rfl) (n := 502) rfl) (n := 503) rfl) (n := 504) rfl) (n := 505) rfl) (n := 506) rfl) (n := 507) rfl) (n := 508) rfl) (n := 509) rfl) (n := 510) rfl) (n := 511) rfl) (n := 512) rfl) (n := 513) rfl) (n := 514) rfl) (n := 515) rfl) (n := 516) rfl) (n := 517) rfl) (n := 518) rfl) (n := 519) rfl
set_option maxRecDepth 20000 in
theorem ini_540 : ∀ a, a < 540 → PI a := stP (stP (stP (stP (stP (stP (stP (stP (stP (stP (stP (stP (stP (stP (stP (stP (stP (stP (stP (stP ini_520 (n := 520) rfl) (n := 521) rfl) (n := 522) rfl) (n := 523) rfl) (n := 524) rfl) (n := 525) rfl) (n := 526) rfl) (n := 527) rfl) (n := 528) rfl) (n := 529) rfl) (n := 530) rfl) (n := 531) rfl) (n := 532) rfl) (n := 533) rfl) (n := 534) rfl) (n := 535) rfl) (n := 536) rfl) (n := 537) rfl) (n := 538) rfl) (n := 539) rfl
set_option maxRecDepth 20000 in
theorem ini_560 : ∀ a, a < 560 → PI a := stP (stP (stP (stP (stP (stP (stP (stP (stP (stP (stP (stP (stP (stP (stP (stP (stP (stP (stP (stP ini_540 (n := 540) rfl) (n := 541) rfl) (n := 542) rfl) (n := 543) rfl) (n := 544) rfl) (n := 545) rfl) (n := 546) rfl) (n := 547) rfl) (n := 548) rfl) (n := 549) rfl) (n := 550) rfl) (n := 551) rfl) (n := 552) rfl) (n := 553) rfl) (n := 554) rfl) (n := 555) rfl) (n := 556) rfl) (n := 557) rfl) (n := 558) rfl) (n := 559) rfl
set_option maxRecDepth 20000 in
theorem ini_563 : ∀ a, a < 563 → PI a := stP (stP (stP ini_560 (n := 560) rfl) (n := 561) rfl) (n := 562) rfl
theorem ini_sub {a : Nat} {e : AE} (h : hs S00 a = some e) : hIni a = some e := by
  by_cases q : a < 563
  · rw [ini_563 a q]; exact h
  · unfold hs at h
    rw [lay_big (by omega)] at h
    cases h
theorem J_sub {g : Gp} {M : Mt} {d pc : Nat} {tb : List ExceptionTableEntry} {ls : List (Option Value)} {st : List Value} {h h' : AH} {sz kc ks : Nat} {Q : Po} (hs' : ∀ a e, h' a = some e → h a = some e) (k : J g M d tb pc ls st h' sz kc ks Q) : J g M d tb pc ls st h sz kc ks Q := by
  intro p e s m args below meth c R mc ms QF C E H locs cells slots la hH hS hl h1 h2
  exact k p e s m args below meth c R mc ms QF C E H locs cells slots la ⟨hH.1, fun a x ha => hH.2 a x (hs' a x ha)⟩ hS hl h1 h2
