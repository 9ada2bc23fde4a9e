theorem dL_law__224 : decode cL_law_ 224 = .ok (.iaload, 1) := by decide +kernel
theorem dL_law__225 : decode cL_law_ 225 = .ok (.aload_n 0, 1) := by decide +kernel
theorem dL_law__226 : decode cL_law_ 226 = .ok (.iload 4, 2) := by decide +kernel
theorem dL_law__228 : decode cL_law_ 228 = .ok (.iconst 3, 1) := by decide +kernel
theorem dL_law__229 : decode cL_law_ 229 = .ok (.iadd, 1) := by decide +kernel
theorem dL_law__230 : decode cL_law_ 230 = .ok (.iaload, 1) := by decide +kernel
theorem dL_law__231 : decode cL_law_ 231 = .ok (.aload_n 0, 1) := by decide +kernel
theorem dL_law__232 : decode cL_law_ 232 = .ok (.iload 4, 2) := by decide +kernel
theorem dL_law__234 : decode cL_law_ 234 = .ok (.iconst 4, 1) := by decide +kernel
theorem dL_law__235 : decode cL_law_ 235 = .ok (.iadd, 1) := by decide +kernel
theorem dL_law__236 : decode cL_law_ 236 = .ok (.iaload, 1) := by decide +kernel
theorem dL_law__237 : decode cL_law_ 237 = .ok (.aload_n 0, 1) := by decide +kernel
theorem dL_law__238 : decode cL_law_ 238 = .ok (.iload 4, 2) := by decide +kernel
theorem dL_law__240 : decode cL_law_ 240 = .ok (.iconst 5, 1) := by decide +kernel
theorem dL_law__241 : decode cL_law_ 241 = .ok (.iadd, 1) := by decide +kernel
theorem dL_law__242 : decode cL_law_ 242 = .ok (.iaload, 1) := by decide +kernel
theorem dL_law__243 : decode cL_law_ 243 = .ok (.invokevirtual 111, 3) := by decide +kernel
theorem dL_law__246 : decode cL_law_ 246 = .ok (.aload_n 2, 1) := by decide +kernel
theorem dL_law__247 : decode cL_law_ 247 = .ok (.aload_n 0, 1) := by decide +kernel
theorem dL_law__248 : decode cL_law_ 248 = .ok (.iload 4, 2) := by decide +kernel
theorem dL_law__250 : decode cL_law_ 250 = .ok (.iconst 1, 1) := by decide +kernel
theorem dL_law__251 : decode cL_law_ 251 = .ok (.iadd, 1) := by decide +kernel
theorem dL_law__252 : decode cL_law_ 252 = .ok (.iaload, 1) := by decide +kernel
theorem dL_law__253 : decode cL_law_ 253 = .ok (.aload_n 0, 1) := by decide +kernel
theorem dL_law__254 : decode cL_law_ 254 = .ok (.iload 4, 2) := by decide +kernel
theorem dL_law__256 : decode cL_law_ 256 = .ok (.iconst 2, 1) := by decide +kernel
theorem dL_law__257 : decode cL_law_ 257 = .ok (.iadd, 1) := by decide +kernel
theorem dL_law__258 : decode cL_law_ 258 = .ok (.iaload, 1) := by decide +kernel
theorem dL_law__259 : decode cL_law_ 259 = .ok (.aload_n 0, 1) := by decide +kernel
theorem dL_law__260 : decode cL_law_ 260 = .ok (.iload 4, 2) := by decide +kernel
theorem dL_law__262 : decode cL_law_ 262 = .ok (.iconst 3, 1) := by decide +kernel
theorem dL_law__263 : decode cL_law_ 263 = .ok (.iadd, 1) := by decide +kernel
theorem dL_law__264 : decode cL_law_ 264 = .ok (.iaload, 1) := by decide +kernel
theorem dL_law__265 : decode cL_law_ 265 = .ok (.aload_n 0, 1) := by decide +kernel
theorem dL_law__266 : decode cL_law_ 266 = .ok (.iload 4, 2) := by decide +kernel
theorem dL_law__268 : decode cL_law_ 268 = .ok (.iconst 4, 1) := by decide +kernel
theorem dL_law__269 : decode cL_law_ 269 = .ok (.iadd, 1) := by decide +kernel
theorem dL_law__270 : decode cL_law_ 270 = .ok (.iaload, 1) := by decide +kernel
theorem dL_law__271 : decode cL_law_ 271 = .ok (.aload_n 0, 1) := by decide +kernel
theorem dL_law__272 : decode cL_law_ 272 = .ok (.iload 4, 2) := by decide +kernel
theorem dL_law__274 : decode cL_law_ 274 = .ok (.iconst 5, 1) := by decide +kernel
theorem dL_law__275 : decode cL_law_ 275 = .ok (.iadd, 1) := by decide +kernel
theorem dL_law__276 : decode cL_law_ 276 = .ok (.iaload, 1) := by decide +kernel
theorem dL_law__277 : decode cL_law_ 277 = .ok (.invokevirtual 114, 3) := by decide +kernel
theorem dL_law__280 : decode cL_law_ 280 = .ok (.if_icmp .eq 2129, 3) := by decide +kernel
theorem dL_law__283 : decode cL_law_ 283 = .ok (.iconst 0, 1) := by decide +kernel
theorem dL_law__284 : decode cL_law_ 284 = .ok (.ireturn, 1) := by decide +kernel
theorem dL_law__285 : decode cL_law_ 285 = .ok (.aload_n 1, 1) := by decide +kernel
theorem dL_law__286 : decode cL_law_ 286 = .ok (.aload_n 0, 1) := by decide +kernel
theorem dL_law__287 : decode cL_law_ 287 = .ok (.iload 4, 2) := by decide +kernel
theorem dL_law__289 : decode cL_law_ 289 = .ok (.iconst 1, 1) := by decide +kernel
theorem dL_law__290 : decode cL_law_ 290 = .ok (.iadd, 1) := by decide +kernel
theorem dL_law__291 : decode cL_law_ 291 = .ok (.iaload, 1) := by decide +kernel
theorem dL_law__292 : decode cL_law_ 292 = .ok (.aload_n 3, 1) := by decide +kernel
theorem dL_law__293 : decode cL_law_ 293 = .ok (.invokestatic 115, 3) := by decide +kernel
theorem dL_law__296 : decode cL_law_ 296 = .ok (.istore 5, 2) := by decide +kernel
theorem dL_law__298 : decode cL_law_ 298 = .ok (.aload_n 2, 1) := by decide +kernel
theorem dL_law__299 : decode cL_law_ 299 = .ok (.aload_n 0, 1) := by decide +kernel
theorem dL_law__300 : decode cL_law_ 300 = .ok (.iload 4, 2) := by decide +kernel
theorem dL_law__302 : decode cL_law_ 302 = .ok (.iconst 1, 1) := by decide +kernel
theorem dL_law__303 : decode cL_law_ 303 = .ok (.iadd, 1) := by decide +kernel
theorem dL_law__304 : decode cL_law_ 304 = .ok (.iaload, 1) := by decide +kernel
theorem dL_law__305 : decode cL_law_ 305 = .ok (.invokevirtual 120, 3) := by decide +kernel
theorem dL_law__308 : decode cL_law_ 308 = .ok (.istore 6, 2) := by decide +kernel
theorem dL_law__310 : decode cL_law_ 310 = .ok (.aload_n 2, 1) := by decide +kernel
theorem dL_law__311 : decode cL_law_ 311 = .ok (.invokevirtual 121, 3) := by decide +kernel
theorem dL_law__314 : decode cL_law_ 314 = .ok (.iload 5, 2) := by decide +kernel
theorem dL_law__316 : decode cL_law_ 316 = .ok (.if_icmp .eq 5, 3) := by decide +kernel
theorem dL_law__319 : decode cL_law_ 319 = .ok (.iconst 0, 1) := by decide +kernel
theorem dL_law__320 : decode cL_law_ 320 = .ok (.ireturn, 1) := by decide +kernel
theorem dL_law__321 : decode cL_law_ 321 = .ok (.iload 5, 2) := by decide +kernel
theorem dL_law__323 : decode cL_law_ 323 = .ok (.ifCond .ne 15, 3) := by decide +kernel
theorem dL_law__326 : decode cL_law_ 326 = .ok (.aload_n 3, 1) := by decide +kernel
theorem dL_law__327 : decode cL_law_ 327 = .ok (.iconst 0, 1) := by decide +kernel
theorem dL_law__328 : decode cL_law_ 328 = .ok (.laload, 1) := by decide +kernel
theorem dL_law__329 : decode cL_law_ 329 = .ok (.iload 6, 2) := by decide +kernel
theorem dL_law__331 : decode cL_law_ 331 = .ok (.i2l, 1) := by decide +kernel
theorem dL_law__332 : decode cL_law_ 332 = .ok (.lcmp, 1) := by decide +kernel
theorem dL_law__333 : decode cL_law_ 333 = .ok (.ifCond .eq 5, 3) := by decide +kernel
theorem dL_law__336 : decode cL_law_ 336 = .ok (.iconst 0, 1) := by decide +kernel
theorem dL_law__337 : decode cL_law_ 337 = .ok (.ireturn, 1) := by decide +kernel
theorem dL_law__338 : decode cL_law_ 338 = .ok (.goto 2071, 3) := by decide +kernel
theorem dL_law__341 : decode cL_law_ 341 = .ok (.aload_n 1, 1) := by decide +kernel
theorem dL_law__342 : decode cL_law_ 342 = .ok (.aload_n 0, 1) := by decide +kernel
theorem dL_law__343 : decode cL_law_ 343 = .ok (.iload 4, 2) := by decide +kernel
theorem dL_law__345 : decode cL_law_ 345 = .ok (.iconst 1, 1) := by decide +kernel
theorem dL_law__346 : decode cL_law_ 346 = .ok (.iadd, 1) := by decide +kernel
theorem dL_law__347 : decode cL_law_ 347 = .ok (.iaload, 1) := by decide +kernel
theorem dL_law__348 : decode cL_law_ 348 = .ok (.aload_n 3, 1) := by decide +kernel
theorem dL_law__349 : decode cL_law_ 349 = .ok (.invokestatic 125, 3) := by decide +kernel
theorem dL_law__352 : decode cL_law_ 352 = .ok (.istore 5, 2) := by decide +kernel
theorem dL_law__354 : decode cL_law_ 354 = .ok (.aload_n 2, 1) := by decide +kernel
theorem dL_law__355 : decode cL_law_ 355 = .ok (.aload_n 0, 1) := by decide +kernel
theorem dL_law__356 : decode cL_law_ 356 = .ok (.iload 4, 2) := by decide +kernel
theorem dL_law__358 : decode cL_law_ 358 = .ok (.iconst 1, 1) := by decide +kernel
theorem dL_law__359 : decode cL_law_ 359 = .ok (.iadd, 1) := by decide +kernel
theorem dL_law__360 : decode cL_law_ 360 = .ok (.iaload, 1) := by decide +kernel
theorem dL_law__361 : decode cL_law_ 361 = .ok (.invokevirtual 127, 3) := by decide +kernel
theorem dL_law__364 : decode cL_law_ 364 = .ok (.istore 6, 2) := by decide +kernel
theorem dL_law__366 : decode cL_law_ 366 = .ok (.aload_n 2, 1) := by decide +kernel
theorem dL_law__367 : decode cL_law_ 367 = .ok (.invokevirtual 121, 3) := by decide +kernel
theorem dL_law__370 : decode cL_law_ 370 = .ok (.iload 5, 2) := by decide +kernel
theorem dL_law__372 : decode cL_law_ 372 = .ok (.if_icmp .eq 5, 3) := by decide +kernel
theorem dL_law__375 : decode cL_law_ 375 = .ok (.iconst 0, 1) := by decide +kernel
theorem dL_law__376 : decode cL_law_ 376 = .ok (.ireturn, 1) := by decide +kernel
theorem dL_law__377 : decode cL_law_ 377 = .ok (.iload 5, 2) := by decide +kernel
theorem dL_law__379 : decode cL_law_ 379 = .ok (.ifCond .ne 15, 3) := by decide +kernel
theorem dL_law__382 : decode cL_law_ 382 = .ok (.aload_n 3, 1) := by decide +kernel
theorem dL_law__383 : decode cL_law_ 383 = .ok (.iconst 0, 1) := by decide +kernel
theorem dL_law__384 : decode cL_law_ 384 = .ok (.laload, 1) := by decide +kernel
theorem dL_law__385 : decode cL_law_ 385 = .ok (.iload 6, 2) := by decide +kernel
theorem dL_law__387 : decode cL_law_ 387 = .ok (.i2l, 1) := by decide +kernel
theorem dL_law__388 : decode cL_law_ 388 = .ok (.lcmp, 1) := by decide +kernel
theorem dL_law__389 : decode cL_law_ 389 = .ok (.ifCond .eq 5, 3) := by decide +kernel
theorem dL_law__392 : decode cL_law_ 392 = .ok (.iconst 0, 1) := by decide +kernel
theorem dL_law__393 : decode cL_law_ 393 = .ok (.ireturn, 1) := by decide +kernel
theorem dL_law__394 : decode cL_law_ 394 = .ok (.goto 2015, 3) := by decide +kernel
theorem dL_law__397 : decode cL_law_ 397 = .ok (.aload_n 1, 1) := by decide +kernel
theorem dL_law__398 : decode cL_law_ 398 = .ok (.aload_n 0, 1) := by decide +kernel
theorem dL_law__399 : decode cL_law_ 399 = .ok (.iload 4, 2) := by decide +kernel
theorem dL_law__401 : decode cL_law_ 401 = .ok (.iconst 1, 1) := by decide +kernel
theorem dL_law__402 : decode cL_law_ 402 = .ok (.iadd, 1) := by decide +kernel
theorem dL_law__403 : decode cL_law_ 403 = .ok (.iaload, 1) := by decide +kernel
theorem dL_law__404 : decode cL_law_ 404 = .ok (.aload_n 3, 1) := by decide +kernel
theorem dL_law__405 : decode cL_law_ 405 = .ok (.invokestatic 128, 3) := by decide +kernel
theorem dL_law__408 : decode cL_law_ 408 = .ok (.istore 5, 2) := by decide +kernel
theorem dL_law__410 : decode cL_law_ 410 = .ok (.aload_n 2, 1) := by decide +kernel
theorem dL_law__411 : decode cL_law_ 411 = .ok (.aload_n 0, 1) := by decide +kernel
theorem dL_law__412 : decode cL_law_ 412 = .ok (.iload 4, 2) := by decide +kernel
theorem dL_law__414 : decode cL_law_ 414 = .ok (.iconst 1, 1) := by decide +kernel
theorem dL_law__415 : decode cL_law_ 415 = .ok (.iadd, 1) := by decide +kernel
theorem dL_law__416 : decode cL_law_ 416 = .ok (.iaload, 1) := by decide +kernel
theorem dL_law__417 : decode cL_law_ 417 = .ok (.invokevirtual 130, 3) := by decide +kernel
theorem dL_law__420 : decode cL_law_ 420 = .ok (.istore 6, 2) := by decide +kernel
theorem dL_law__422 : decode cL_law_ 422 = .ok (.aload_n 2, 1) := by decide +kernel
theorem dL_law__423 : decode cL_law_ 423 = .ok (.invokevirtual 121, 3) := by decide +kernel
theorem dL_law__426 : decode cL_law_ 426 = .ok (.iload 5, 2) := by decide +kernel
theorem dL_law__428 : decode cL_law_ 428 = .ok (.if_icmp .eq 5, 3) := by decide +kernel
theorem dL_law__431 : decode cL_law_ 431 = .ok (.iconst 0, 1) := by decide +kernel
theorem dL_law__432 : decode cL_law_ 432 = .ok (.ireturn, 1) := by decide +kernel
theorem dL_law__433 : decode cL_law_ 433 = .ok (.iload 5, 2) := by decide +kernel
theorem dL_law__435 : decode cL_law_ 435 = .ok (.ifCond .ne 15, 3) := by decide +kernel
theorem dL_law__438 : decode cL_law_ 438 = .ok (.aload_n 3, 1) := by decide +kernel
theorem dL_law__439 : decode cL_law_ 439 = .ok (.iconst 0, 1) := by decide +kernel
theorem dL_law__440 : decode cL_law_ 440 = .ok (.laload, 1) := by decide +kernel
theorem dL_law__441 : decode cL_law_ 441 = .ok (.iload 6, 2) := by decide +kernel
theorem dL_law__443 : decode cL_law_ 443 = .ok (.i2l, 1) := by decide +kernel
theorem dL_law__444 : decode cL_law_ 444 = .ok (.lcmp, 1) := by decide +kernel
theorem dL_law__445 : decode cL_law_ 445 = .ok (.ifCond .eq 5, 3) := by decide +kernel
theorem dL_law__448 : decode cL_law_ 448 = .ok (.iconst 0, 1) := by decide +kernel
theorem dL_law__449 : decode cL_law_ 449 = .ok (.ireturn, 1) := by decide +kernel
theorem dL_law__450 : decode cL_law_ 450 = .ok (.goto 1959, 3) := by decide +kernel
theorem dL_law__453 : decode cL_law_ 453 = .ok (.aload_n 1, 1) := by decide +kernel
theorem dL_law__454 : decode cL_law_ 454 = .ok (.aload_n 0, 1) := by decide +kernel
theorem dL_law__455 : decode cL_law_ 455 = .ok (.iload 4, 2) := by decide +kernel
theorem dL_law__457 : decode cL_law_ 457 = .ok (.iconst 1, 1) := by decide +kernel
theorem dL_law__458 : decode cL_law_ 458 = .ok (.iadd, 1) := by decide +kernel
theorem dL_law__459 : decode cL_law_ 459 = .ok (.iaload, 1) := by decide +kernel
theorem dL_law__460 : decode cL_law_ 460 = .ok (.aload_n 3, 1) := by decide +kernel
theorem dL_law__461 : decode cL_law_ 461 = .ok (.invokestatic 131, 3) := by decide +kernel
theorem dL_law__464 : decode cL_law_ 464 = .ok (.istore 5, 2) := by decide +kernel
theorem dL_law__466 : decode cL_law_ 466 = .ok (.aload_n 2, 1) := by decide +kernel
theorem dL_law__467 : decode cL_law_ 467 = .ok (.aload_n 0, 1) := by decide +kernel
theorem dL_law__468 : decode cL_law_ 468 = .ok (.iload 4, 2) := by decide +kernel
theorem dL_law__470 : decode cL_law_ 470 = .ok (.iconst 1, 1) := by decide +kernel
theorem dL_law__471 : decode cL_law_ 471 = .ok (.iadd, 1) := by decide +kernel
theorem dL_law__472 : decode cL_law_ 472 = .ok (.iaload, 1) := by decide +kernel
theorem dL_law__473 : decode cL_law_ 473 = .ok (.invokevirtual 133, 3) := by decide +kernel
theorem dL_law__476 : decode cL_law_ 476 = .ok (.istore 6, 2) := by decide +kernel
theorem dL_law__478 : decode cL_law_ 478 = .ok (.aload_n 2, 1) := by decide +kernel
theorem dL_law__479 : decode cL_law_ 479 = .ok (.invokevirtual 121, 3) := by decide +kernel
theorem dL_law__482 : decode cL_law_ 482 = .ok (.iload 5, 2) := by decide +kernel
theorem dL_law__484 : decode cL_law_ 484 = .ok (.if_icmp .eq 5, 3) := by decide +kernel
theorem dL_law__487 : decode cL_law_ 487 = .ok (.iconst 0, 1) := by decide +kernel
theorem dL_law__488 : decode cL_law_ 488 = .ok (.ireturn, 1) := by decide +kernel
theorem dL_law__489 : decode cL_law_ 489 = .ok (.iload 5, 2) := by decide +kernel
theorem dL_law__491 : decode cL_law_ 491 = .ok (.ifCond .ne 15, 3) := by decide +kernel
theorem dL_law__494 : decode cL_law_ 494 = .ok (.aload_n 3, 1) := by decide +kernel
theorem dL_law__495 : decode cL_law_ 495 = .ok (.iconst 0, 1) := by decide +kernel
theorem dL_law__496 : decode cL_law_ 496 = .ok (.laload, 1) := by decide +kernel
theorem dL_law__497 : decode cL_law_ 497 = .ok (.iload 6, 2) := by decide +kernel
theorem dL_law__499 : decode cL_law_ 499 = .ok (.i2l, 1) := by decide +kernel
theorem dL_law__500 : decode cL_law_ 500 = .ok (.lcmp, 1) := by decide +kernel
theorem dL_law__501 : decode cL_law_ 501 = .ok (.ifCond .eq 5, 3) := by decide +kernel
theorem dL_law__504 : decode cL_law_ 504 = .ok (.iconst 0, 1) := by decide +kernel
theorem dL_law__505 : decode cL_law_ 505 = .ok (.ireturn, 1) := by decide +kernel
theorem dL_law__506 : decode cL_law_ 506 = .ok (.goto 1903, 3) := by decide +kernel
theorem dL_law__509 : decode cL_law_ 509 = .ok (.aload_n 1, 1) := by decide +kernel
theorem dL_law__510 : decode cL_law_ 510 = .ok (.invokevirtual 134, 3) := by decide +kernel
theorem dL_law__513 : decode cL_law_ 513 = .ok (.aload_n 2, 1) := by decide +kernel
theorem dL_law__514 : decode cL_law_ 514 = .ok (.invokevirtual 137, 3) := by decide +kernel
theorem dL_law__517 : decode cL_law_ 517 = .ok (.if_icmp .eq 1892, 3) := by decide +kernel
theorem dL_law__520 : decode cL_law_ 520 = .ok (.iconst 0, 1) := by decide +kernel
theorem dL_law__521 : decode cL_law_ 521 = .ok (.ireturn, 1) := by decide +kernel
theorem dL_law__522 : decode cL_law_ 522 = .ok (.aload_n 1, 1) := by decide +kernel
theorem dL_law__523 : decode cL_law_ 523 = .ok (.invokevirtual 138, 3) := by decide +kernel
theorem dL_law__526 : decode cL_law_ 526 = .ok (.aload_n 2, 1) := by decide +kernel
theorem dL_law__527 : decode cL_law_ 527 = .ok (.invokevirtual 141, 3) := by decide +kernel
theorem dL_law__530 : decode cL_law_ 530 = .ok (.if_icmp .eq 1879, 3) := by decide +kernel
theorem dL_law__533 : decode cL_law_ 533 = .ok (.iconst 0, 1) := by decide +kernel
theorem dL_law__534 : decode cL_law_ 534 = .ok (.ireturn, 1) := by decide +kernel
theorem dL_law__535 : decode cL_law_ 535 = .ok (.aload_n 1, 1) := by decide +kernel
theorem dL_law__536 : decode cL_law_ 536 = .ok (.aload_n 0, 1) := by decide +kernel
theorem dL_law__537 : decode cL_law_ 537 = .ok (.iload 4, 2) := by decide +kernel
theorem dL_law__539 : decode cL_law_ 539 = .ok (.iconst 1, 1) := by decide +kernel
theorem dL_law__540 : decode cL_law_ 540 = .ok (.iadd, 1) := by decide +kernel
theorem dL_law__541 : decode cL_law_ 541 = .ok (.iaload, 1) := by decide +kernel
theorem dL_law__542 : decode cL_law_ 542 = .ok (.aload_n 3, 1) := by decide +kernel
theorem dL_law__543 : decode cL_law_ 543 = .ok (.invokestatic 142, 3) := by decide +kernel
theorem dL_law__546 : decode cL_law_ 546 = .ok (.istore 5, 2) := by decide +kernel
theorem dL_law__548 : decode cL_law_ 548 = .ok (.aload_n 2, 1) := by decide +kernel
theorem dL_law__549 : decode cL_law_ 549 = .ok (.aload_n 0, 1) := by decide +kernel
theorem dL_law__550 : decode cL_law_ 550 = .ok (.iload 4, 2) := by decide +kernel
theorem dL_law__552 : decode cL_law_ 552 = .ok (.iconst 1, 1) := by decide +kernel
theorem dL_law__553 : decode cL_law_ 553 = .ok (.iadd, 1) := by decide +kernel
theorem dL_law__554 : decode cL_law_ 554 = .ok (.iaload, 1) := by decide +kernel
theorem dL_law__555 : decode cL_law_ 555 = .ok (.invokevirtual 144, 3) := by decide +kernel
theorem dL_law__558 : decode cL_law_ 558 = .ok (.istore 6, 2) := by decide +kernel
theorem dL_law__560 : decode cL_law_ 560 = .ok (.aload_n 2, 1) := by decide +kernel
theorem dL_law__561 : decode cL_law_ 561 = .ok (.invokevirtual 121, 3) := by decide +kernel
theorem dL_law__564 : decode cL_law_ 564 = .ok (.iload 5, 2) := by decide +kernel
theorem dL_law__566 : decode cL_law_ 566 = .ok (.if_icmp .eq 5, 3) := by decide +kernel
theorem dL_law__569 : decode cL_law_ 569 = .ok (.iconst 0, 1) := by decide +kernel
theorem dL_law__570 : decode cL_law_ 570 = .ok (.ireturn, 1) := by decide +kernel
theorem dL_law__571 : decode cL_law_ 571 = .ok (.iload 5, 2) := by decide +kernel
theorem dL_law__573 : decode cL_law_ 573 = .ok (.ifCond .ne 15, 3) := by decide +kernel
theorem dL_law__576 : decode cL_law_ 576 = .ok (.aload_n 3, 1) := by decide +kernel
theorem dL_law__577 : decode cL_law_ 577 = .ok (.iconst 0, 1) := by decide +kernel
theorem dL_law__578 : decode cL_law_ 578 = .ok (.laload, 1) := by decide +kernel
theorem dL_law__579 : decode cL_law_ 579 = .ok (.iload 6, 2) := by decide +kernel
theorem dL_law__581 : decode cL_law_ 581 = .ok (.i2l, 1) := by decide +kernel
theorem dL_law__582 : decode cL_law_ 582 = .ok (.lcmp, 1) := by decide +kernel
theorem dL_law__583 : decode cL_law_ 583 = .ok (.ifCond .eq 5, 3) := by decide +kernel
theorem dL_law__586 : decode cL_law_ 586 = .ok (.iconst 0, 1) := by decide +kernel
theorem dL_law__587 : decode cL_law_ 587 = .ok (.ireturn, 1) := by decide +kernel
theorem dL_law__588 : decode cL_law_ 588 = .ok (.goto 1821, 3) := by decide +kernel
theorem dL_law__591 : decode cL_law_ 591 = .ok (.aload_n 1, 1) := by decide +kernel
theorem dL_law__592 : decode cL_law_ 592 = .ok (.aload_n 0, 1) := by decide +kernel
theorem dL_law__593 : decode cL_law_ 593 = .ok (.iload 4, 2) := by decide +kernel
theorem dL_law__595 : decode cL_law_ 595 = .ok (.iconst 1, 1) := by decide +kernel
theorem dL_law__596 : decode cL_law_ 596 = .ok (.iadd, 1) := by decide +kernel
theorem dL_law__597 : decode cL_law_ 597 = .ok (.iaload, 1) := by decide +kernel
theorem dL_law__598 : decode cL_law_ 598 = .ok (.aload_n 0, 1) := by decide +kernel
theorem dL_law__599 : decode cL_law_ 599 = .ok (.iload 4, 2) := by decide +kernel
theorem dL_law__601 : decode cL_law_ 601 = .ok (.iconst 2, 1) := by decide +kernel
theorem dL_law__602 : decode cL_law_ 602 = .ok (.iadd, 1) := by decide +kernel
theorem dL_law__603 : decode cL_law_ 603 = .ok (.iaload, 1) := by decide +kernel
theorem dL_law__604 : decode cL_law_ 604 = .ok (.aload_n 3, 1) := by decide +kernel
theorem dL_law__605 : decode cL_law_ 605 = .ok (.invokestatic 145, 3) := by decide +kernel
theorem dL_law__608 : decode cL_law_ 608 = .ok (.istore 5, 2) := by decide +kernel
theorem dL_law__610 : decode cL_law_ 610 = .ok (.aload_n 2, 1) := by decide +kernel
theorem dL_law__611 : decode cL_law_ 611 = .ok (.aload_n 0, 1) := by decide +kernel
theorem dL_law__612 : decode cL_law_ 612 = .ok (.iload 4, 2) := by decide +kernel
theorem dL_law__614 : decode cL_law_ 614 = .ok (.iconst 1, 1) := by decide +kernel
theorem dL_law__615 : decode cL_law_ 615 = .ok (.iadd, 1) := by decide +kernel
theorem dL_law__616 : decode cL_law_ 616 = .ok (.iaload, 1) := by decide +kernel
theorem dL_law__617 : decode cL_law_ 617 = .ok (.aload_n 0, 1) := by decide +kernel
theorem dL_law__618 : decode cL_law_ 618 = .ok (.iload 4, 2) := by decide +kernel
theorem dL_law__620 : decode cL_law_ 620 = .ok (.iconst 2, 1) := by decide +kernel
theorem dL_law__621 : decode cL_law_ 621 = .ok (.iadd, 1) := by decide +kernel
theorem dL_law__622 : decode cL_law_ 622 = .ok (.iaload, 1) := by decide +kernel
theorem dL_law__623 : decode cL_law_ 623 = .ok (.invokevirtual 148, 3) := by decide +kernel
theorem dL_law__626 : decode cL_law_ 626 = .ok (.istore 6, 2) := by decide +kernel
theorem dL_law__628 : decode cL_law_ 628 = .ok (.aload_n 2, 1) := by decide +kernel
theorem dL_law__629 : decode cL_law_ 629 = .ok (.invokevirtual 121, 3) := by decide +kernel
theorem dL_law__632 : decode cL_law_ 632 = .ok (.iload 5, 2) := by decide +kernel
theorem dL_law__634 : decode cL_law_ 634 = .ok (.if_icmp .eq 5, 3) := by decide +kernel
theorem dL_law__637 : decode cL_law_ 637 = .ok (.iconst 0, 1) := by decide +kernel
theorem dL_law__638 : decode cL_law_ 638 = .ok (.ireturn, 1) := by decide +kernel
theorem dL_law__639 : decode cL_law_ 639 = .ok (.iload 5, 2) := by decide +kernel
theorem dL_law__641 : decode cL_law_ 641 = .ok (.ifCond .ne 15, 3) := by decide +kernel
theorem dL_law__644 : decode cL_law_ 644 = .ok (.aload_n 3, 1) := by decide +kernel
theorem dL_law__645 : decode cL_law_ 645 = .ok (.iconst 0, 1) := by decide +kernel
theorem dL_law__646 : decode cL_law_ 646 = .ok (.laload, 1) := by decide +kernel
theorem dL_law__647 : decode cL_law_ 647 = .ok (.iload 6, 2) := by decide +kernel
theorem dL_law__649 : decode cL_law_ 649 = .ok (.i2l, 1) := by decide +kernel
theorem dL_law__650 : decode cL_law_ 650 = .ok (.lcmp, 1) := by decide +kernel
theorem dL_law__651 : decode cL_law_ 651 = .ok (.ifCond .eq 5, 3) := by decide +kernel
theorem dL_law__654 : decode cL_law_ 654 = .ok (.iconst 0, 1) := by decide +kernel
theorem dL_law__655 : decode cL_law_ 655 = .ok (.ireturn, 1) := by decide +kernel
theorem dL_law__656 : decode cL_law_ 656 = .ok (.goto 1753, 3) := by decide +kernel
theorem dL_law__659 : decode cL_law_ 659 = .ok (.aload_n 1, 1) := by decide +kernel
theorem dL_law__660 : decode cL_law_ 660 = .ok (.aload_n 0, 1) := by decide +kernel
theorem dL_law__661 : decode cL_law_ 661 = .ok (.iload 4, 2) := by decide +kernel
theorem dL_law__663 : decode cL_law_ 663 = .ok (.iconst 1, 1) := by decide +kernel
theorem dL_law__664 : decode cL_law_ 664 = .ok (.iadd, 1) := by decide +kernel
theorem dL_law__665 : decode cL_law_ 665 = .ok (.iaload, 1) := by decide +kernel
theorem dL_law__666 : decode cL_law_ 666 = .ok (.aload_n 0, 1) := by decide +kernel
theorem dL_law__667 : decode cL_law_ 667 = .ok (.iload 4, 2) := by decide +kernel
theorem dL_law__669 : decode cL_law_ 669 = .ok (.iconst 2, 1) := by decide +kernel
theorem dL_law__670 : decode cL_law_ 670 = .ok (.iadd, 1) := by decide +kernel
theorem dL_law__671 : decode cL_law_ 671 = .ok (.iaload, 1) := by decide +kernel
theorem dL_law__672 : decode cL_law_ 672 = .ok (.aload_n 3, 1) := by decide +kernel
theorem dL_law__673 : decode cL_law_ 673 = .ok (.invokestatic 149, 3) := by decide +kernel
theorem dL_law__676 : decode cL_law_ 676 = .ok (.istore 5, 2) := by decide +kernel
theorem dL_law__678 : decode cL_law_ 678 = .ok (.aload_n 2, 1) := by decide +kernel
theorem dL_law__679 : decode cL_law_ 679 = .ok (.aload_n 0, 1) := by decide +kernel
theorem dL_law__680 : decode cL_law_ 680 = .ok (.iload 4, 2) := by decide +kernel
theorem dL_law__682 : decode cL_law_ 682 = .ok (.iconst 1, 1) := by decide +kernel
theorem dL_law__683 : decode cL_law_ 683 = .ok (.iadd, 1) := by decide +kernel
theorem dL_law__684 : decode cL_law_ 684 = .ok (.iaload, 1) := by decide +kernel
theorem dL_law__685 : decode cL_law_ 685 = .ok (.aload_n 0, 1) := by decide +kernel
theorem dL_law__686 : decode cL_law_ 686 = .ok (.iload 4, 2) := by decide +kernel
theorem dL_law__688 : decode cL_law_ 688 = .ok (.iconst 2, 1) := by decide +kernel
theorem dL_law__689 : decode cL_law_ 689 = .ok (.iadd, 1) := by decide +kernel
theorem dL_law__690 : decode cL_law_ 690 = .ok (.iaload, 1) := by decide +kernel
theorem dL_law__691 : decode cL_law_ 691 = .ok (.invokevirtual 151, 3) := by decide +kernel
theorem dL_law__694 : decode cL_law_ 694 = .ok (.istore 6, 2) := by decide +kernel
theorem dL_law__696 : decode cL_law_ 696 = .ok (.aload_n 2, 1) := by decide +kernel
theorem dL_law__697 : decode cL_law_ 697 = .ok (.invokevirtual 121, 3) := by decide +kernel
theorem dL_law__700 : decode cL_law_ 700 = .ok (.iload 5, 2) := by decide +kernel
theorem dL_law__702 : decode cL_law_ 702 = .ok (.if_icmp .eq 5, 3) := by decide +kernel
theorem dL_law__705 : decode cL_law_ 705 = .ok (.iconst 0, 1) := by decide +kernel
theorem dL_law__706 : decode cL_law_ 706 = .ok (.ireturn, 1) := by decide +kernel
theorem dL_law__707 : decode cL_law_ 707 = .ok (.iload 5, 2) := by decide +kernel
theorem dL_law__709 : decode cL_law_ 709 = .ok (.ifCond .ne 15, 3) := by decide +kernel
theorem dL_law__712 : decode cL_law_ 712 = .ok (.aload_n 3, 1) := by decide +kernel
theorem dL_law__713 : decode cL_law_ 713 = .ok (.iconst 0, 1) := by decide +kernel
theorem dL_law__714 : decode cL_law_ 714 = .ok (.laload, 1) := by decide +kernel
theorem dL_law__715 : decode cL_law_ 715 = .ok (.iload 6, 2) := by decide +kernel
theorem dL_law__717 : decode cL_law_ 717 = .ok (.i2l, 1) := by decide +kernel
theorem dL_law__718 : decode cL_law_ 718 = .ok (.lcmp, 1) := by decide +kernel
theorem dL_law__719 : decode cL_law_ 719 = .ok (.ifCond .eq 5, 3) := by decide +kernel
theorem dL_law__722 : decode cL_law_ 722 = .ok (.iconst 0, 1) := by decide +kernel
theorem dL_law__723 : decode cL_law_ 723 = .ok (.ireturn, 1) := by decide +kernel
theorem dL_law__724 : decode cL_law_ 724 = .ok (.goto 1685, 3) := by decide +kernel
theorem dL_law__727 : decode cL_law_ 727 = .ok (.aload_n 1, 1) := by decide +kernel
theorem dL_law__728 : decode cL_law_ 728 = .ok (.aload_n 0, 1) := by decide +kernel
theorem dL_law__729 : decode cL_law_ 729 = .ok (.iload 4, 2) := by decide +kernel
theorem dL_law__731 : decode cL_law_ 731 = .ok (.iconst 1, 1) := by decide +kernel
theorem dL_law__732 : decode cL_law_ 732 = .ok (.iadd, 1) := by decide +kernel
theorem dL_law__733 : decode cL_law_ 733 = .ok (.iaload, 1) := by decide +kernel
theorem dL_law__734 : decode cL_law_ 734 = .ok (.aload_n 0, 1) := by decide +kernel
theorem dL_law__735 : decode cL_law_ 735 = .ok (.iload 4, 2) := by decide +kernel
theorem dL_law__737 : decode cL_law_ 737 = .ok (.iconst 2, 1) := by decide +kernel
theorem dL_law__738 : decode cL_law_ 738 = .ok (.iadd, 1) := by decide +kernel
theorem dL_law__739 : decode cL_law_ 739 = .ok (.iaload, 1) := by decide +kernel
theorem dL_law__740 : decode cL_law_ 740 = .ok (.aload_n 3, 1) := by decide +kernel
theorem dL_law__741 : decode cL_law_ 741 = .ok (.invokestatic 152, 3) := by decide +kernel
theorem dL_law__744 : decode cL_law_ 744 = .ok (.istore 5, 2) := by decide +kernel
theorem dL_law__746 : decode cL_law_ 746 = .ok (.aload_n 2, 1) := by decide +kernel
theorem dL_law__747 : decode cL_law_ 747 = .ok (.aload_n 0, 1) := by decide +kernel
theorem dL_law__748 : decode cL_law_ 748 = .ok (.iload 4, 2) := by decide +kernel
theorem dL_law__750 : decode cL_law_ 750 = .ok (.iconst 1, 1) := by decide +kernel
theorem dL_law__751 : decode cL_law_ 751 = .ok (.iadd, 1) := by decide +kernel
theorem dL_law__752 : decode cL_law_ 752 = .ok (.iaload, 1) := by decide +kernel
theorem dL_law__753 : decode cL_law_ 753 = .ok (.aload_n 0, 1) := by decide +kernel
theorem dL_law__754 : decode cL_law_ 754 = .ok (.iload 4, 2) := by decide +kernel
theorem dL_law__756 : decode cL_law_ 756 = .ok (.iconst 2, 1) := by decide +kernel
theorem dL_law__757 : decode cL_law_ 757 = .ok (.iadd, 1) := by decide +kernel
theorem dL_law__758 : decode cL_law_ 758 = .ok (.iaload, 1) := by decide +kernel
theorem dL_law__759 : decode cL_law_ 759 = .ok (.invokevirtual 154, 3) := by decide +kernel
theorem dL_law__762 : decode cL_law_ 762 = .ok (.istore 6, 2) := by decide +kernel
theorem dL_law__764 : decode cL_law_ 764 = .ok (.aload_n 2, 1) := by decide +kernel
theorem dL_law__765 : decode cL_law_ 765 = .ok (.invokevirtual 121, 3) := by decide +kernel
theorem dL_law__768 : decode cL_law_ 768 = .ok (.iload 5, 2) := by decide +kernel
theorem dL_law__770 : decode cL_law_ 770 = .ok (.if_icmp .eq 5, 3) := by decide +kernel
theorem dL_law__773 : decode cL_law_ 773 = .ok (.iconst 0, 1) := by decide +kernel
theorem dL_law__774 : decode cL_law_ 774 = .ok (.ireturn, 1) := by decide +kernel
theorem dL_law__775 : decode cL_law_ 775 = .ok (.iload 5, 2) := by decide +kernel
theorem dL_law__777 : decode cL_law_ 777 = .ok (.ifCond .ne 15, 3) := by decide +kernel
theorem dL_law__780 : decode cL_law_ 780 = .ok (.aload_n 3, 1) := by decide +kernel
theorem dL_law__781 : decode cL_law_ 781 = .ok (.iconst 0, 1) := by decide +kernel
theorem dL_law__782 : decode cL_law_ 782 = .ok (.laload, 1) := by decide +kernel
theorem dL_law__783 : decode cL_law_ 783 = .ok (.iload 6, 2) := by decide +kernel
theorem dL_law__785 : decode cL_law_ 785 = .ok (.i2l, 1) := by decide +kernel
theorem dL_law__786 : decode cL_law_ 786 = .ok (.lcmp, 1) := by decide +kernel
theorem dL_law__787 : decode cL_law_ 787 = .ok (.ifCond .eq 5, 3) := by decide +kernel
theorem dL_law__790 : decode cL_law_ 790 = .ok (.iconst 0, 1) := by decide +kernel
theorem dL_law__791 : decode cL_law_ 791 = .ok (.ireturn, 1) := by decide +kernel
theorem dL_law__792 : decode cL_law_ 792 = .ok (.goto 1617, 3) := by decide +kernel
theorem dL_law__795 : decode cL_law_ 795 = .ok (.aload_n 1, 1) := by decide +kernel
theorem dL_law__796 : decode cL_law_ 796 = .ok (.aload_n 0, 1) := by decide +kernel
theorem dL_law__797 : decode cL_law_ 797 = .ok (.iload 4, 2) := by decide +kernel
theorem dL_law__799 : decode cL_law_ 799 = .ok (.iconst 1, 1) := by decide +kernel
theorem dL_law__800 : decode cL_law_ 800 = .ok (.iadd, 1) := by decide +kernel
theorem dL_law__801 : decode cL_law_ 801 = .ok (.iaload, 1) := by decide +kernel
theorem dL_law__802 : decode cL_law_ 802 = .ok (.aload_n 0, 1) := by decide +kernel
theorem dL_law__803 : decode cL_law_ 803 = .ok (.iload 4, 2) := by decide +kernel
theorem dL_law__805 : decode cL_law_ 805 = .ok (.iconst 2, 1) := by decide +kernel
theorem dL_law__806 : decode cL_law_ 806 = .ok (.iadd, 1) := by decide +kernel
theorem dL_law__807 : decode cL_law_ 807 = .ok (.iaload, 1) := by decide +kernel
theorem dL_law__808 : decode cL_law_ 808 = .ok (.aload_n 0, 1) := by decide +kernel
theorem dL_law__809 : decode cL_law_ 809 = .ok (.iload 4, 2) := by decide +kernel
theorem dL_law__811 : decode cL_law_ 811 = .ok (.iconst 3, 1) := by decide +kernel
theorem dL_law__812 : decode cL_law_ 812 = .ok (.iadd, 1) := by decide +kernel
theorem dL_law__813 : decode cL_law_ 813 = .ok (.iaload, 1) := by decide +kernel
theorem dL_law__814 : decode cL_law_ 814 = .ok (.aload_n 0, 1) := by decide +kernel
theorem dL_law__815 : decode cL_law_ 815 = .ok (.iload 4, 2) := by decide +kernel
theorem dL_law__817 : decode cL_law_ 817 = .ok (.iconst 4, 1) := by decide +kernel
theorem dL_law__818 : decode cL_law_ 818 = .ok (.iadd, 1) := by decide +kernel
theorem dL_law__819 : decode cL_law_ 819 = .ok (.iaload, 1) := by decide +kernel
theorem dL_law__820 : decode cL_law_ 820 = .ok (.aload_n 0, 1) := by decide +kernel
theorem dL_law__821 : decode cL_law_ 821 = .ok (.iload 4, 2) := by decide +kernel
theorem dL_law__823 : decode cL_law_ 823 = .ok (.iconst 5, 1) := by decide +kernel
theorem dL_law__824 : decode cL_law_ 824 = .ok (.iadd, 1) := by decide +kernel
theorem dL_law__825 : decode cL_law_ 825 = .ok (.iaload, 1) := by decide +kernel
theorem dL_law__826 : decode cL_law_ 826 = .ok (.aload_n 0, 1) := by decide +kernel
theorem dL_law__827 : decode cL_law_ 827 = .ok (.iload 4, 2) := by decide +kernel
theorem dL_law__829 : decode cL_law_ 829 = .ok (.bipush 6, 2) := by decide +kernel
theorem dL_law__831 : decode cL_law_ 831 = .ok (.iadd, 1) := by decide +kernel
theorem dL_law__832 : decode cL_law_ 832 = .ok (.iaload, 1) := by decide +kernel
theorem dL_law__833 : decode cL_law_ 833 = .ok (.aload_n 0, 1) := by decide +kernel
theorem dL_law__834 : decode cL_law_ 834 = .ok (.iload 4, 2) := by decide +kernel
theorem dL_law__836 : decode cL_law_ 836 = .ok (.bipush 7, 2) := by decide +kernel
theorem dL_law__838 : decode cL_law_ 838 = .ok (.iadd, 1) := by decide +kernel
theorem dL_law__839 : decode cL_law_ 839 = .ok (.iaload, 1) := by decide +kernel
theorem dL_law__840 : decode cL_law_ 840 = .ok (.aload_n 0, 1) := by decide +kernel
theorem dL_law__841 : decode cL_law_ 841 = .ok (.iload 4, 2) := by decide +kernel
theorem dL_law__843 : decode cL_law_ 843 = .ok (.bipush 8, 2) := by decide +kernel
theorem dL_law__845 : decode cL_law_ 845 = .ok (.iadd, 1) := by decide +kernel
theorem dL_law__846 : decode cL_law_ 846 = .ok (.iaload, 1) := by decide +kernel
theorem dL_law__847 : decode cL_law_ 847 = .ok (.aload_n 3, 1) := by decide +kernel
theorem dL_law__848 : decode cL_law_ 848 = .ok (.invokestatic 155, 3) := by decide +kernel
theorem dL_law__851 : decode cL_law_ 851 = .ok (.istore 5, 2) := by decide +kernel
theorem dL_law__853 : decode cL_law_ 853 = .ok (.aload_n 2, 1) := by decide +kernel
theorem dL_law__854 : decode cL_law_ 854 = .ok (.aload_n 0, 1) := by decide +kernel
theorem dL_law__855 : decode cL_law_ 855 = .ok (.iload 4, 2) := by decide +kernel
theorem dL_law__857 : decode cL_law_ 857 = .ok (.iconst 1, 1) := by decide +kernel
theorem dL_law__858 : decode cL_law_ 858 = .ok (.iadd, 1) := by decide +kernel
theorem dL_law__859 : decode cL_law_ 859 = .ok (.iaload, 1) := by decide +kernel
theorem dL_law__860 : decode cL_law_ 860 = .ok (.aload_n 0, 1) := by decide +kernel
theorem dL_law__861 : decode cL_law_ 861 = .ok (.iload 4, 2) := by decide +kernel
theorem dL_law__863 : decode cL_law_ 863 = .ok (.iconst 2, 1) := by decide +kernel
theorem dL_law__864 : decode cL_law_ 864 = .ok (.iadd, 1) := by decide +kernel
theorem dL_law__865 : decode cL_law_ 865 = .ok (.iaload, 1) := by decide +kernel
theorem dL_law__866 : decode cL_law_ 866 = .ok (.aload_n 0, 1) := by decide +kernel
theorem dL_law__867 : decode cL_law_ 867 = .ok (.iload 4, 2) := by decide +kernel
theorem dL_law__869 : decode cL_law_ 869 = .ok (.iconst 3, 1) := by decide +kernel
theorem dL_law__870 : decode cL_law_ 870 = .ok (.iadd, 1) := by decide +kernel
theorem dL_law__871 : decode cL_law_ 871 = .ok (.iaload, 1) := by decide +kernel
theorem dL_law__872 : decode cL_law_ 872 = .ok (.aload_n 0, 1) := by decide +kernel
theorem dL_law__873 : decode cL_law_ 873 = .ok (.iload 4, 2) := by decide +kernel
theorem dL_law__875 : decode cL_law_ 875 = .ok (.iconst 4, 1) := by decide +kernel
theorem dL_law__876 : decode cL_law_ 876 = .ok (.iadd, 1) := by decide +kernel
theorem dL_law__877 : decode cL_law_ 877 = .ok (.iaload, 1) := by decide +kernel
theorem dL_law__878 : decode cL_law_ 878 = .ok (.aload_n 0, 1) := by decide +kernel
theorem dL_law__879 : decode cL_law_ 879 = .ok (.iload 4, 2) := by decide +kernel
theorem dL_law__881 : decode cL_law_ 881 = .ok (.iconst 5, 1) := by decide +kernel
theorem dL_law__882 : decode cL_law_ 882 = .ok (.iadd, 1) := by decide +kernel
theorem dL_law__883 : decode cL_law_ 883 = .ok (.iaload, 1) := by decide +kernel
theorem dL_law__884 : decode cL_law_ 884 = .ok (.aload_n 0, 1) := by decide +kernel
theorem dL_law__885 : decode cL_law_ 885 = .ok (.iload 4, 2) := by decide +kernel
theorem dL_law__887 : decode cL_law_ 887 = .ok (.bipush 6, 2) := by decide +kernel
theorem dL_law__889 : decode cL_law_ 889 = .ok (.iadd, 1) := by decide +kernel
theorem dL_law__890 : decode cL_law_ 890 = .ok (.iaload, 1) := by decide +kernel
theorem dL_law__891 : decode cL_law_ 891 = .ok (.aload_n 0, 1) := by decide +kernel
theorem dL_law__892 : decode cL_law_ 892 = .ok (.iload 4, 2) := by decide +kernel
theorem dL_law__894 : decode cL_law_ 894 = .ok (.bipush 7, 2) := by decide +kernel
theorem dL_law__896 : decode cL_law_ 896 = .ok (.iadd, 1) := by decide +kernel
theorem dL_law__897 : decode cL_law_ 897 = .ok (.iaload, 1) := by decide +kernel
theorem dL_law__898 : decode cL_law_ 898 = .ok (.aload_n 0, 1) := by decide +kernel
theorem dL_law__899 : decode cL_law_ 899 = .ok (.iload 4, 2) := by decide +kernel
theorem dL_law__901 : decode cL_law_ 901 = .ok (.bipush 8, 2) := by decide +kernel
theorem dL_law__903 : decode cL_law_ 903 = .ok (.iadd, 1) := by decide +kernel
theorem dL_law__904 : decode cL_law_ 904 = .ok (.iaload, 1) := by decide +kernel
theorem dL_law__905 : decode cL_law_ 905 = .ok (.invokevirtual 158, 3) := by decide +kernel
theorem dL_law__908 : decode cL_law_ 908 = .ok (.istore 6, 2) := by decide +kernel
theorem dL_law__910 : decode cL_law_ 910 = .ok (.aload_n 2, 1) := by decide +kernel
theorem dL_law__911 : decode cL_law_ 911 = .ok (.invokevirtual 121, 3) := by decide +kernel
theorem dL_law__914 : decode cL_law_ 914 = .ok (.iload 5, 2) := by decide +kernel
theorem dL_law__916 : decode cL_law_ 916 = .ok (.if_icmp .eq 5, 3) := by decide +kernel
theorem dL_law__919 : decode cL_law_ 919 = .ok (.iconst 0, 1) := by decide +kernel
theorem dL_law__920 : decode cL_law_ 920 = .ok (.ireturn, 1) := by decide +kernel
theorem dL_law__921 : decode cL_law_ 921 = .ok (.iload 5, 2) := by decide +kernel
theorem dL_law__923 : decode cL_law_ 923 = .ok (.ifCond .ne 15, 3) := by decide +kernel
theorem dL_law__926 : decode cL_law_ 926 = .ok (.aload_n 3, 1) := by decide +kernel
theorem dL_law__927 : decode cL_law_ 927 = .ok (.iconst 0, 1) := by decide +kernel
theorem dL_law__928 : decode cL_law_ 928 = .ok (.laload, 1) := by decide +kernel
theorem dL_law__929 : decode cL_law_ 929 = .ok (.iload 6, 2) := by decide +kernel
theorem dL_law__931 : decode cL_law_ 931 = .ok (.i2l, 1) := by decide +kernel
theorem dL_law__932 : decode cL_law_ 932 = .ok (.lcmp, 1) := by decide +kernel
theorem dL_law__933 : decode cL_law_ 933 = .ok (.ifCond .eq 5, 3) := by decide +kernel
theorem dL_law__936 : decode cL_law_ 936 = .ok (.iconst 0, 1) := by decide +kernel
theorem dL_law__937 : decode cL_law_ 937 = .ok (.ireturn, 1) := by decide +kernel
theorem dL_law__938 : decode cL_law_ 938 = .ok (.goto 1471, 3) := by decide +kernel
theorem dL_law__941 : decode cL_law_ 941 = .ok (.aload_n 1, 1) := by decide +kernel
theorem dL_law__942 : decode cL_law_ 942 = .ok (.aload_n 0, 1) := by decide +kernel
theorem dL_law__943 : decode cL_law_ 943 = .ok (.iload 4, 2) := by decide +kernel
theorem dL_law__945 : decode cL_law_ 945 = .ok (.iconst 1, 1) := by decide +kernel
theorem dL_law__946 : decode cL_law_ 946 = .ok (.iadd, 1) := by decide +kernel
theorem dL_law__947 : decode cL_law_ 947 = .ok (.iaload, 1) := by decide +kernel
theorem dL_law__948 : decode cL_law_ 948 = .ok (.aload_n 0, 1) := by decide +kernel
theorem dL_law__949 : decode cL_law_ 949 = .ok (.iload 4, 2) := by decide +kernel
theorem dL_law__951 : decode cL_law_ 951 = .ok (.iconst 2, 1) := by decide +kernel
theorem dL_law__952 : decode cL_law_ 952 = .ok (.iadd, 1) := by decide +kernel
theorem dL_law__953 : decode cL_law_ 953 = .ok (.iaload, 1) := by decide +kernel
theorem dL_law__954 : decode cL_law_ 954 = .ok (.aload_n 3, 1) := by decide +kernel
theorem dL_law__955 : decode cL_law_ 955 = .ok (.invokestatic 159, 3) := by decide +kernel
theorem dL_law__958 : decode cL_law_ 958 = .ok (.istore 5, 2) := by decide +kernel
theorem dL_law__960 : decode cL_law_ 960 = .ok (.aload_n 2, 1) := by decide +kernel
theorem dL_law__961 : decode cL_law_ 961 = .ok (.aload_n 0, 1) := by decide +kernel
theorem dL_law__962 : decode cL_law_ 962 = .ok (.iload 4, 2) := by decide +kernel
theorem dL_law__964 : decode cL_law_ 964 = .ok (.iconst 1, 1) := by decide +kernel
theorem dL_law__965 : decode cL_law_ 965 = .ok (.iadd, 1) := by decide +kernel
theorem dL_law__966 : decode cL_law_ 966 = .ok (.iaload, 1) := by decide +kernel
theorem dL_law__967 : decode cL_law_ 967 = .ok (.aload_n 0, 1) := by decide +kernel
theorem dL_law__968 : decode cL_law_ 968 = .ok (.iload 4, 2) := by decide +kernel
theorem dL_law__970 : decode cL_law_ 970 = .ok (.iconst 2, 1) := by decide +kernel
theorem dL_law__971 : decode cL_law_ 971 = .ok (.iadd, 1) := by decide +kernel
theorem dL_law__972 : decode cL_law_ 972 = .ok (.iaload, 1) := by decide +kernel
theorem dL_law__973 : decode cL_law_ 973 = .ok (.invokevirtual 161, 3) := by decide +kernel
theorem dL_law__976 : decode cL_law_ 976 = .ok (.istore 6, 2) := by decide +kernel
theorem dL_law__978 : decode cL_law_ 978 = .ok (.aload_n 2, 1) := by decide +kernel
theorem dL_law__979 : decode cL_law_ 979 = .ok (.invokevirtual 121, 3) := by decide +kernel
theorem dL_law__982 : decode cL_law_ 982 = .ok (.iload 5, 2) := by decide +kernel
theorem dL_law__984 : decode cL_law_ 984 = .ok (.if_icmp .eq 5, 3) := by decide +kernel
theorem dL_law__987 : decode cL_law_ 987 = .ok (.iconst 0, 1) := by decide +kernel
theorem dL_law__988 : decode cL_law_ 988 = .ok (.ireturn, 1) := by decide +kernel
theorem dL_law__989 : decode cL_law_ 989 = .ok (.iload 5, 2) := by decide +kernel
theorem dL_law__991 : decode cL_law_ 991 = .ok (.ifCond .ne 22, 3) := by decide +kernel
theorem dL_law__994 : decode cL_law_ 994 = .ok (.aload_n 3, 1) := by decide +kernel
theorem dL_law__995 : decode cL_law_ 995 = .ok (.iconst 0, 1) := by decide +kernel
theorem dL_law__996 : decode cL_law_ 996 = .ok (.laload, 1) := by decide +kernel
theorem dL_law__997 : decode cL_law_ 997 = .ok (.iload 6, 2) := by decide +kernel
theorem dL_law__999 : decode cL_law_ 999 = .ok (.ifCond .eq 7, 3) := by decide +kernel
theorem dL_law__1002 : decode cL_law_ 1002 = .ok (.lconst 1, 1) := by decide +kernel
theorem dL_law__1003 : decode cL_law_ 1003 = .ok (.goto 4, 3) := by decide +kernel
theorem dL_law__1006 : decode cL_law_ 1006 = .ok (.lconst 0, 1) := by decide +kernel
theorem dL_law__1007 : decode cL_law_ 1007 = .ok (.lcmp, 1) := by decide +kernel
theorem dL_law__1008 : decode cL_law_ 1008 = .ok (.ifCond .eq 5, 3) := by decide +kernel
theorem dL_law__1011 : decode cL_law_ 1011 = .ok (.iconst 0, 1) := by decide +kernel
theorem dL_law__1012 : decode cL_law_ 1012 = .ok (.ireturn, 1) := by decide +kernel
theorem dL_law__1013 : decode cL_law_ 1013 = .ok (.goto 1396, 3) := by decide +kernel
theorem dL_law__1016 : decode cL_law_ 1016 = .ok (.aload_n 1, 1) := by decide +kernel
theorem dL_law__1017 : decode cL_law_ 1017 = .ok (.aload_n 0, 1) := by decide +kernel
theorem dL_law__1018 : decode cL_law_ 1018 = .ok (.iload 4, 2) := by decide +kernel
theorem dL_law__1020 : decode cL_law_ 1020 = .ok (.iconst 1, 1) := by decide +kernel
theorem dL_law__1021 : decode cL_law_ 1021 = .ok (.iadd, 1) := by decide +kernel
theorem dL_law__1022 : decode cL_law_ 1022 = .ok (.iaload, 1) := by decide +kernel
theorem dL_law__1023 : decode cL_law_ 1023 = .ok (.aload_n 0, 1) := by decide +kernel
theorem dL_law__1024 : decode cL_law_ 1024 = .ok (.iload 4, 2) := by decide +kernel
theorem dL_law__1026 : decode cL_law_ 1026 = .ok (.iconst 2, 1) := by decide +kernel
theorem dL_law__1027 : decode cL_law_ 1027 = .ok (.iadd, 1) := by decide +kernel
theorem dL_law__1028 : decode cL_law_ 1028 = .ok (.iaload, 1) := by decide +kernel
theorem dL_law__1029 : decode cL_law_ 1029 = .ok (.aload_n 3, 1) := by decide +kernel
theorem dL_law__1030 : decode cL_law_ 1030 = .ok (.invokestatic 162, 3) := by decide +kernel
theorem dL_law__1033 : decode cL_law_ 1033 = .ok (.istore 5, 2) := by decide +kernel
theorem dL_law__1035 : decode cL_law_ 1035 = .ok (.aload_n 2, 1) := by decide +kernel
theorem dL_law__1036 : decode cL_law_ 1036 = .ok (.aload_n 0, 1) := by decide +kernel
theorem dL_law__1037 : decode cL_law_ 1037 = .ok (.iload 4, 2) := by decide +kernel
theorem dL_law__1039 : decode cL_law_ 1039 = .ok (.iconst 1, 1) := by decide +kernel
theorem dL_law__1040 : decode cL_law_ 1040 = .ok (.iadd, 1) := by decide +kernel
theorem dL_law__1041 : decode cL_law_ 1041 = .ok (.iaload, 1) := by decide +kernel
theorem dL_law__1042 : decode cL_law_ 1042 = .ok (.aload_n 0, 1) := by decide +kernel
theorem dL_law__1043 : decode cL_law_ 1043 = .ok (.iload 4, 2) := by decide +kernel
theorem dL_law__1045 : decode cL_law_ 1045 = .ok (.iconst 2, 1) := by decide +kernel
theorem dL_law__1046 : decode cL_law_ 1046 = .ok (.iadd, 1) := by decide +kernel
theorem dL_law__1047 : decode cL_law_ 1047 = .ok (.iaload, 1) := by decide +kernel
theorem dL_law__1048 : decode cL_law_ 1048 = .ok (.invokevirtual 164, 3) := by decide +kernel
theorem dL_law__1051 : decode cL_law_ 1051 = .ok (.istore 6, 2) := by decide +kernel
theorem dL_law__1053 : decode cL_law_ 1053 = .ok (.aload_n 2, 1) := by decide +kernel
theorem dL_law__1054 : decode cL_law_ 1054 = .ok (.invokevirtual 121, 3) := by decide +kernel
theorem dL_law__1057 : decode cL_law_ 1057 = .ok (.iload 5, 2) := by decide +kernel
theorem dL_law__1059 : decode cL_law_ 1059 = .ok (.if_icmp .eq 5, 3) := by decide +kernel
theorem dL_law__1062 : decode cL_law_ 1062 = .ok (.iconst 0, 1) := by decide +kernel
theorem dL_law__1063 : decode cL_law_ 1063 = .ok (.ireturn, 1) := by decide +kernel
theorem dL_law__1064 : decode cL_law_ 1064 = .ok (.iload 5, 2) := by decide +kernel
theorem dL_law__1066 : decode cL_law_ 1066 = .ok (.ifCond .ne 15, 3) := by decide +kernel
theorem dL_law__1069 : decode cL_law_ 1069 = .ok (.aload_n 3, 1) := by decide +kernel
theorem dL_law__1070 : decode cL_law_ 1070 = .ok (.iconst 0, 1) := by decide +kernel
theorem dL_law__1071 : decode cL_law_ 1071 = .ok (.laload, 1) := by decide +kernel
theorem dL_law__1072 : decode cL_law_ 1072 = .ok (.iload 6, 2) := by decide +kernel
theorem dL_law__1074 : decode cL_law_ 1074 = .ok (.i2l, 1) := by decide +kernel
theorem dL_law__1075 : decode cL_law_ 1075 = .ok (.lcmp, 1) := by decide +kernel
theorem dL_law__1076 : decode cL_law_ 1076 = .ok (.ifCond .eq 5, 3) := by decide +kernel
theorem dL_law__1079 : decode cL_law_ 1079 = .ok (.iconst 0, 1) := by decide +kernel
theorem dL_law__1080 : decode cL_law_ 1080 = .ok (.ireturn, 1) := by decide +kernel
theorem dL_law__1081 : decode cL_law_ 1081 = .ok (.goto 1328, 3) := by decide +kernel
theorem dL_law__1084 : decode cL_law_ 1084 = .ok (.aload_n 1, 1) := by decide +kernel
theorem dL_law__1085 : decode cL_law_ 1085 = .ok (.aload_n 0, 1) := by decide +kernel
theorem dL_law__1086 : decode cL_law_ 1086 = .ok (.iload 4, 2) := by decide +kernel
theorem dL_law__1088 : decode cL_law_ 1088 = .ok (.iconst 1, 1) := by decide +kernel
theorem dL_law__1089 : decode cL_law_ 1089 = .ok (.iadd, 1) := by decide +kernel
theorem dL_law__1090 : decode cL_law_ 1090 = .ok (.iaload, 1) := by decide +kernel
theorem dL_law__1091 : decode cL_law_ 1091 = .ok (.aload_n 0, 1) := by decide +kernel
theorem dL_law__1092 : decode cL_law_ 1092 = .ok (.iload 4, 2) := by decide +kernel
theorem dL_law__1094 : decode cL_law_ 1094 = .ok (.iconst 2, 1) := by decide +kernel
theorem dL_law__1095 : decode cL_law_ 1095 = .ok (.iadd, 1) := by decide +kernel
theorem dL_law__1096 : decode cL_law_ 1096 = .ok (.iaload, 1) := by decide +kernel
theorem dL_law__1097 : decode cL_law_ 1097 = .ok (.aload_n 0, 1) := by decide +kernel
theorem dL_law__1098 : decode cL_law_ 1098 = .ok (.iload 4, 2) := by decide +kernel
theorem dL_law__1100 : decode cL_law_ 1100 = .ok (.iconst 3, 1) := by decide +kernel
theorem dL_law__1101 : decode cL_law_ 1101 = .ok (.iadd, 1) := by decide +kernel
theorem dL_law__1102 : decode cL_law_ 1102 = .ok (.iaload, 1) := by decide +kernel
theorem dL_law__1103 : decode cL_law_ 1103 = .ok (.aload_n 3, 1) := by decide +kernel
theorem dL_law__1104 : decode cL_law_ 1104 = .ok (.invokestatic 165, 3) := by decide +kernel
theorem dL_law__1107 : decode cL_law_ 1107 = .ok (.istore 5, 2) := by decide +kernel
theorem dL_law__1109 : decode cL_law_ 1109 = .ok (.aload_n 2, 1) := by decide +kernel
theorem dL_law__1110 : decode cL_law_ 1110 = .ok (.aload_n 0, 1) := by decide +kernel
theorem dL_law__1111 : decode cL_law_ 1111 = .ok (.iload 4, 2) := by decide +kernel
theorem dL_law__1113 : decode cL_law_ 1113 = .ok (.iconst 1, 1) := by decide +kernel
theorem dL_law__1114 : decode cL_law_ 1114 = .ok (.iadd, 1) := by decide +kernel
theorem dL_law__1115 : decode cL_law_ 1115 = .ok (.iaload, 1) := by decide +kernel
theorem dL_law__1116 : decode cL_law_ 1116 = .ok (.aload_n 0, 1) := by decide +kernel
theorem dL_law__1117 : decode cL_law_ 1117 = .ok (.iload 4, 2) := by decide +kernel
theorem dL_law__1119 : decode cL_law_ 1119 = .ok (.iconst 2, 1) := by decide +kernel
theorem dL_law__1120 : decode cL_law_ 1120 = .ok (.iadd, 1) := by decide +kernel
theorem dL_law__1121 : decode cL_law_ 1121 = .ok (.iaload, 1) := by decide +kernel
theorem dL_law__1122 : decode cL_law_ 1122 = .ok (.aload_n 0, 1) := by decide +kernel
theorem dL_law__1123 : decode cL_law_ 1123 = .ok (.iload 4, 2) := by decide +kernel
theorem dL_law__1125 : decode cL_law_ 1125 = .ok (.iconst 3, 1) := by decide +kernel
theorem dL_law__1126 : decode cL_law_ 1126 = .ok (.iadd, 1) := by decide +kernel
theorem dL_law__1127 : decode cL_law_ 1127 = .ok (.iaload, 1) := by decide +kernel
theorem dL_law__1128 : decode cL_law_ 1128 = .ok (.invokevirtual 168, 3) := by decide +kernel
theorem dL_law__1131 : decode cL_law_ 1131 = .ok (.istore 6, 2) := by decide +kernel
theorem dL_law__1133 : decode cL_law_ 1133 = .ok (.aload_n 2, 1) := by decide +kernel
theorem dL_law__1134 : decode cL_law_ 1134 = .ok (.invokevirtual 121, 3) := by decide +kernel
theorem dL_law__1137 : decode cL_law_ 1137 = .ok (.iload 5, 2) := by decide +kernel
theorem dL_law__1139 : decode cL_law_ 1139 = .ok (.if_icmp .eq 5, 3) := by decide +kernel
theorem dL_law__1142 : decode cL_law_ 1142 = .ok (.iconst 0, 1) := by decide +kernel
theorem dL_law__1143 : decode cL_law_ 1143 = .ok (.ireturn, 1) := by decide +kernel
theorem dL_law__1144 : decode cL_law_ 1144 = .ok (.iload 5, 2) := by decide +kernel
theorem dL_law__1146 : decode cL_law_ 1146 = .ok (.ifCond .ne 15, 3) := by decide +kernel
theorem dL_law__1149 : decode cL_law_ 1149 = .ok (.aload_n 3, 1) := by decide +kernel
theorem dL_law__1150 : decode cL_law_ 1150 = .ok (.iconst 0, 1) := by decide +kernel
theorem dL_law__1151 : decode cL_law_ 1151 = .ok (.laload, 1) := by decide +kernel
theorem dL_law__1152 : decode cL_law_ 1152 = .ok (.iload 6, 2) := by decide +kernel
theorem dL_law__1154 : decode cL_law_ 1154 = .ok (.i2l, 1) := by decide +kernel
theorem dL_law__1155 : decode cL_law_ 1155 = .ok (.lcmp, 1) := by decide +kernel
theorem dL_law__1156 : decode cL_law_ 1156 = .ok (.ifCond .eq 5, 3) := by decide +kernel
theorem dL_law__1159 : decode cL_law_ 1159 = .ok (.iconst 0, 1) := by decide +kernel
theorem dL_law__1160 : decode cL_law_ 1160 = .ok (.ireturn, 1) := by decide +kernel
theorem dL_law__1161 : decode cL_law_ 1161 = .ok (.goto 1248, 3) := by decide +kernel
theorem dL_law__1164 : decode cL_law_ 1164 = .ok (.aload_n 1, 1) := by decide +kernel
theorem dL_law__1165 : decode cL_law_ 1165 = .ok (.invokevirtual 169, 3) := by decide +kernel
theorem dL_law__1168 : decode cL_law_ 1168 = .ok (.aload_n 2, 1) := by decide +kernel
theorem dL_law__1169 : decode cL_law_ 1169 = .ok (.invokevirtual 172, 3) := by decide +kernel
theorem dL_law__1172 : decode cL_law_ 1172 = .ok (.if_icmp .eq 1237, 3) := by decide +kernel
theorem dL_law__1175 : decode cL_law_ 1175 = .ok (.iconst 0, 1) := by decide +kernel
theorem dL_law__1176 : decode cL_law_ 1176 = .ok (.ireturn, 1) := by decide +kernel
theorem dL_law__1177 : decode cL_law_ 1177 = .ok (.aload_n 1, 1) := by decide +kernel
theorem dL_law__1178 : decode cL_law_ 1178 = .ok (.aload_n 0, 1) := by decide +kernel
theorem dL_law__1179 : decode cL_law_ 1179 = .ok (.iload 4, 2) := by decide +kernel
theorem dL_law__1181 : decode cL_law_ 1181 = .ok (.iconst 1, 1) := by decide +kernel
theorem dL_law__1182 : decode cL_law_ 1182 = .ok (.iadd, 1) := by decide +kernel
theorem dL_law__1183 : decode cL_law_ 1183 = .ok (.iaload, 1) := by decide +kernel
theorem dL_law__1184 : decode cL_law_ 1184 = .ok (.aload_n 3, 1) := by decide +kernel
theorem dL_law__1185 : decode cL_law_ 1185 = .ok (.invokestatic 173, 3) := by decide +kernel
theorem dL_law__1188 : decode cL_law_ 1188 = .ok (.istore 5, 2) := by decide +kernel
theorem dL_law__1190 : decode cL_law_ 1190 = .ok (.aload_n 2, 1) := by decide +kernel
theorem dL_law__1191 : decode cL_law_ 1191 = .ok (.aload_n 0, 1) := by decide +kernel
theorem dL_law__1192 : decode cL_law_ 1192 = .ok (.iload 4, 2) := by decide +kernel
theorem dL_law__1194 : decode cL_law_ 1194 = .ok (.iconst 1, 1) := by decide +kernel
theorem dL_law__1195 : decode cL_law_ 1195 = .ok (.iadd, 1) := by decide +kernel
theorem dL_law__1196 : decode cL_law_ 1196 = .ok (.iaload, 1) := by decide +kernel
theorem dL_law__1197 : decode cL_law_ 1197 = .ok (.invokevirtual 175, 3) := by decide +kernel
theorem dL_law__1200 : decode cL_law_ 1200 = .ok (.istore 6, 2) := by decide +kernel
theorem dL_law__1202 : decode cL_law_ 1202 = .ok (.aload_n 2, 1) := by decide +kernel
theorem dL_law__1203 : decode cL_law_ 1203 = .ok (.invokevirtual 121, 3) := by decide +kernel
theorem dL_law__1206 : decode cL_law_ 1206 = .ok (.iload 5, 2) := by decide +kernel
theorem dL_law__1208 : decode cL_law_ 1208 = .ok (.if_icmp .eq 5, 3) := by decide +kernel
theorem dL_law__1211 : decode cL_law_ 1211 = .ok (.iconst 0, 1) := by decide +kernel
theorem dL_law__1212 : decode cL_law_ 1212 = .ok (.ireturn, 1) := by decide +kernel
theorem dL_law__1213 : decode cL_law_ 1213 = .ok (.iload 5, 2) := by decide +kernel
theorem dL_law__1215 : decode cL_law_ 1215 = .ok (.ifCond .ne 15, 3) := by decide +kernel
theorem dL_law__1218 : decode cL_law_ 1218 = .ok (.aload_n 3, 1) := by decide +kernel
theorem dL_law__1219 : decode cL_law_ 1219 = .ok (.iconst 0, 1) := by decide +kernel
theorem dL_law__1220 : decode cL_law_ 1220 = .ok (.laload, 1) := by decide +kernel
theorem dL_law__1221 : decode cL_law_ 1221 = .ok (.iload 6, 2) := by decide +kernel
theorem dL_law__1223 : decode cL_law_ 1223 = .ok (.i2l, 1) := by decide +kernel
theorem dL_law__1224 : decode cL_law_ 1224 = .ok (.lcmp, 1) := by decide +kernel
theorem dL_law__1225 : decode cL_law_ 1225 = .ok (.ifCond .eq 5, 3) := by decide +kernel
theorem dL_law__1228 : decode cL_law_ 1228 = .ok (.iconst 0, 1) := by decide +kernel
theorem dL_law__1229 : decode cL_law_ 1229 = .ok (.ireturn, 1) := by decide +kernel
theorem dL_law__1230 : decode cL_law_ 1230 = .ok (.goto 1179, 3) := by decide +kernel
theorem dL_law__1233 : decode cL_law_ 1233 = .ok (.aload_n 1, 1) := by decide +kernel
theorem dL_law__1234 : decode cL_law_ 1234 = .ok (.aload_n 0, 1) := by decide +kernel
theorem dL_law__1235 : decode cL_law_ 1235 = .ok (.iload 4, 2) := by decide +kernel
theorem dL_law__1237 : decode cL_law_ 1237 = .ok (.iconst 1, 1) := by decide +kernel
theorem dL_law__1238 : decode cL_law_ 1238 = .ok (.iadd, 1) := by decide +kernel
theorem dL_law__1239 : decode cL_law_ 1239 = .ok (.iaload, 1) := by decide +kernel
theorem dL_law__1240 : decode cL_law_ 1240 = .ok (.aload_n 3, 1) := by decide +kernel
theorem dL_law__1241 : decode cL_law_ 1241 = .ok (.invokestatic 176, 3) := by decide +kernel
theorem dL_law__1244 : decode cL_law_ 1244 = .ok (.istore 5, 2) := by decide +kernel
theorem dL_law__1246 : decode cL_law_ 1246 = .ok (.aload_n 2, 1) := by decide +kernel
theorem dL_law__1247 : decode cL_law_ 1247 = .ok (.aload_n 0, 1) := by decide +kernel
theorem dL_law__1248 : decode cL_law_ 1248 = .ok (.iload 4, 2) := by decide +kernel
theorem dL_law__1250 : decode cL_law_ 1250 = .ok (.iconst 1, 1) := by decide +kernel
theorem dL_law__1251 : decode cL_law_ 1251 = .ok (.iadd, 1) := by decide +kernel
theorem dL_law__1252 : decode cL_law_ 1252 = .ok (.iaload, 1) := by decide +kernel
theorem dL_law__1253 : decode cL_law_ 1253 = .ok (.invokevirtual 178, 3) := by decide +kernel
theorem dL_law__1256 : decode cL_law_ 1256 = .ok (.istore 6, 2) := by decide +kernel
theorem dL_law__1258 : decode cL_law_ 1258 = .ok (.aload_n 2, 1) := by decide +kernel
theorem dL_law__1259 : decode cL_law_ 1259 = .ok (.invokevirtual 121, 3) := by decide +kernel
theorem dL_law__1262 : decode cL_law_ 1262 = .ok (.iload 5, 2) := by decide +kernel
theorem dL_law__1264 : decode cL_law_ 1264 = .ok (.if_icmp .eq 5, 3) := by decide +kernel
theorem dL_law__1267 : decode cL_law_ 1267 = .ok (.iconst 0, 1) := by decide +kernel
theorem dL_law__1268 : decode cL_law_ 1268 = .ok (.ireturn, 1) := by decide +kernel
theorem dL_law__1269 : decode cL_law_ 1269 = .ok (.iload 5, 2) := by decide +kernel
theorem dL_law__1271 : decode cL_law_ 1271 = .ok (.ifCond .ne 15, 3) := by decide +kernel
theorem dL_law__1274 : decode cL_law_ 1274 = .ok (.aload_n 3, 1) := by decide +kernel
theorem dL_law__1275 : decode cL_law_ 1275 = .ok (.iconst 0, 1) := by decide +kernel
theorem dL_law__1276 : decode cL_law_ 1276 = .ok (.laload, 1) := by decide +kernel
theorem dL_law__1277 : decode cL_law_ 1277 = .ok (.iload 6, 2) := by decide +kernel
theorem dL_law__1279 : decode cL_law_ 1279 = .ok (.i2l, 1) := by decide +kernel
theorem dL_law__1280 : decode cL_law_ 1280 = .ok (.lcmp, 1) := by decide +kernel
theorem dL_law__1281 : decode cL_law_ 1281 = .ok (.ifCond .eq 5, 3) := by decide +kernel
theorem dL_law__1284 : decode cL_law_ 1284 = .ok (.iconst 0, 1) := by decide +kernel
theorem dL_law__1285 : decode cL_law_ 1285 = .ok (.ireturn, 1) := by decide +kernel
theorem dL_law__1286 : decode cL_law_ 1286 = .ok (.goto 1123, 3) := by decide +kernel
theorem dL_law__1289 : decode cL_law_ 1289 = .ok (.aload_n 1, 1) := by decide +kernel
theorem dL_law__1290 : decode cL_law_ 1290 = .ok (.aload_n 0, 1) := by decide +kernel
theorem dL_law__1291 : decode cL_law_ 1291 = .ok (.iload 4, 2) := by decide +kernel
theorem dL_law__1293 : decode cL_law_ 1293 = .ok (.iconst 1, 1) := by decide +kernel
theorem dL_law__1294 : decode cL_law_ 1294 = .ok (.iadd, 1) := by decide +kernel
theorem dL_law__1295 : decode cL_law_ 1295 = .ok (.iaload, 1) := by decide +kernel
theorem dL_law__1296 : decode cL_law_ 1296 = .ok (.aload_n 3, 1) := by decide +kernel
theorem dL_law__1297 : decode cL_law_ 1297 = .ok (.invokestatic 179, 3) := by decide +kernel
theorem dL_law__1300 : decode cL_law_ 1300 = .ok (.istore 5, 2) := by decide +kernel
theorem dL_law__1302 : decode cL_law_ 1302 = .ok (.aload_n 2, 1) := by decide +kernel
theorem dL_law__1303 : decode cL_law_ 1303 = .ok (.aload_n 0, 1) := by decide +kernel
theorem dL_law__1304 : decode cL_law_ 1304 = .ok (.iload 4, 2) := by decide +kernel
theorem dL_law__1306 : decode cL_law_ 1306 = .ok (.iconst 1, 1) := by decide +kernel
theorem dL_law__1307 : decode cL_law_ 1307 = .ok (.iadd, 1) := by decide +kernel
theorem dL_law__1308 : decode cL_law_ 1308 = .ok (.iaload, 1) := by decide +kernel
theorem dL_law__1309 : decode cL_law_ 1309 = .ok (.invokevirtual 181, 3) := by decide +kernel
theorem dL_law__1312 : decode cL_law_ 1312 = .ok (.istore 6, 2) := by decide +kernel
theorem dL_law__1314 : decode cL_law_ 1314 = .ok (.aload_n 2, 1) := by decide +kernel
theorem dL_law__1315 : decode cL_law_ 1315 = .ok (.invokevirtual 121, 3) := by decide +kernel
theorem dL_law__1318 : decode cL_law_ 1318 = .ok (.iload 5, 2) := by decide +kernel
theorem dL_law__1320 : decode cL_law_ 1320 = .ok (.if_icmp .eq 5, 3) := by decide +kernel
theorem dL_law__1323 : decode cL_law_ 1323 = .ok (.iconst 0, 1) := by decide +kernel
theorem dL_law__1324 : decode cL_law_ 1324 = .ok (.ireturn, 1) := by decide +kernel
theorem dL_law__1325 : decode cL_law_ 1325 = .ok (.iload 5, 2) := by decide +kernel
theorem dL_law__1327 : decode cL_law_ 1327 = .ok (.ifCond .ne 15, 3) := by decide +kernel
theorem dL_law__1330 : decode cL_law_ 1330 = .ok (.aload_n 3, 1) := by decide +kernel
theorem dL_law__1331 : decode cL_law_ 1331 = .ok (.iconst 0, 1) := by decide +kernel
theorem dL_law__1332 : decode cL_law_ 1332 = .ok (.laload, 1) := by decide +kernel
theorem dL_law__1333 : decode cL_law_ 1333 = .ok (.iload 6, 2) := by decide +kernel
theorem dL_law__1335 : decode cL_law_ 1335 = .ok (.i2l, 1) := by decide +kernel
theorem dL_law__1336 : decode cL_law_ 1336 = .ok (.lcmp, 1) := by decide +kernel
theorem dL_law__1337 : decode cL_law_ 1337 = .ok (.ifCond .eq 5, 3) := by decide +kernel
theorem dL_law__1340 : decode cL_law_ 1340 = .ok (.iconst 0, 1) := by decide +kernel
theorem dL_law__1341 : decode cL_law_ 1341 = .ok (.ireturn, 1) := by decide +kernel
theorem dL_law__1342 : decode cL_law_ 1342 = .ok (.goto 1067, 3) := by decide +kernel
theorem dL_law__1345 : decode cL_law_ 1345 = .ok (.aload_n 1, 1) := by decide +kernel
theorem dL_law__1346 : decode cL_law_ 1346 = .ok (.aload_n 0, 1) := by decide +kernel
theorem dL_law__1347 : decode cL_law_ 1347 = .ok (.iload 4, 2) := by decide +kernel
theorem dL_law__1349 : decode cL_law_ 1349 = .ok (.iconst 1, 1) := by decide +kernel
theorem dL_law__1350 : decode cL_law_ 1350 = .ok (.iadd, 1) := by decide +kernel
theorem dL_law__1351 : decode cL_law_ 1351 = .ok (.iaload, 1) := by decide +kernel
theorem dL_law__1352 : decode cL_law_ 1352 = .ok (.aload_n 0, 1) := by decide +kernel
theorem dL_law__1353 : decode cL_law_ 1353 = .ok (.iload 4, 2) := by decide +kernel
theorem dL_law__1355 : decode cL_law_ 1355 = .ok (.iconst 2, 1) := by decide +kernel
theorem dL_law__1356 : decode cL_law_ 1356 = .ok (.iadd, 1) := by decide +kernel
theorem dL_law__1357 : decode cL_law_ 1357 = .ok (.iaload, 1) := by decide +kernel
theorem dL_law__1358 : decode cL_law_ 1358 = .ok (.aload_n 0, 1) := by decide +kernel
theorem dL_law__1359 : decode cL_law_ 1359 = .ok (.iload 4, 2) := by decide +kernel
theorem dL_law__1361 : decode cL_law_ 1361 = .ok (.iconst 3, 1) := by decide +kernel
theorem dL_law__1362 : decode cL_law_ 1362 = .ok (.iadd, 1) := by decide +kernel
theorem dL_law__1363 : decode cL_law_ 1363 = .ok (.iaload, 1) := by decide +kernel
theorem dL_law__1364 : decode cL_law_ 1364 = .ok (.aload_n 3, 1) := by decide +kernel
theorem dL_law__1365 : decode cL_law_ 1365 = .ok (.invokestatic 182, 3) := by decide +kernel
theorem dL_law__1368 : decode cL_law_ 1368 = .ok (.istore 5, 2) := by decide +kernel
theorem dL_law__1370 : decode cL_law_ 1370 = .ok (.aload_n 2, 1) := by decide +kernel
theorem dL_law__1371 : decode cL_law_ 1371 = .ok (.aload_n 0, 1) := by decide +kernel
theorem dL_law__1372 : decode cL_law_ 1372 = .ok (.iload 4, 2) := by decide +kernel
theorem dL_law__1374 : decode cL_law_ 1374 = .ok (.iconst 1, 1) := by decide +kernel
theorem dL_law__1375 : decode cL_law_ 1375 = .ok (.iadd, 1) := by decide +kernel
theorem dL_law__1376 : decode cL_law_ 1376 = .ok (.iaload, 1) := by decide +kernel
theorem dL_law__1377 : decode cL_law_ 1377 = .ok (.aload_n 0, 1) := by decide +kernel
theorem dL_law__1378 : decode cL_law_ 1378 = .ok (.iload 4, 2) := by decide +kernel
theorem dL_law__1380 : decode cL_law_ 1380 = .ok (.iconst 2, 1) := by decide +kernel
theorem dL_law__1381 : decode cL_law_ 1381 = .ok (.iadd, 1) := by decide +kernel
theorem dL_law__1382 : decode cL_law_ 1382 = .ok (.iaload, 1) := by decide +kernel
theorem dL_law__1383 : decode cL_law_ 1383 = .ok (.aload_n 0, 1) := by decide +kernel
theorem dL_law__1384 : decode cL_law_ 1384 = .ok (.iload 4, 2) := by decide +kernel
theorem dL_law__1386 : decode cL_law_ 1386 = .ok (.iconst 3, 1) := by decide +kernel
theorem dL_law__1387 : decode cL_law_ 1387 = .ok (.iadd, 1) := by decide +kernel
theorem dL_law__1388 : decode cL_law_ 1388 = .ok (.iaload, 1) := by decide +kernel
theorem dL_law__1389 : decode cL_law_ 1389 = .ok (.invokevirtual 184, 3) := by decide +kernel
theorem dL_law__1392 : decode cL_law_ 1392 = .ok (.lstore 6, 2) := by decide +kernel
theorem dL_law__1394 : decode cL_law_ 1394 = .ok (.aload_n 2, 1) := by decide +kernel
theorem dL_law__1395 : decode cL_law_ 1395 = .ok (.invokevirtual 121, 3) := by decide +kernel
theorem dL_law__1398 : decode cL_law_ 1398 = .ok (.iload 5, 2) := by decide +kernel
theorem dL_law__1400 : decode cL_law_ 1400 = .ok (.if_icmp .eq 5, 3) := by decide +kernel
theorem dL_law__1403 : decode cL_law_ 1403 = .ok (.iconst 0, 1) := by decide +kernel
theorem dL_law__1404 : decode cL_law_ 1404 = .ok (.ireturn, 1) := by decide +kernel
theorem dL_law__1405 : decode cL_law_ 1405 = .ok (.iload 5, 2) := by decide +kernel
theorem dL_law__1407 : decode cL_law_ 1407 = .ok (.ifCond .ne 14, 3) := by decide +kernel
theorem dL_law__1410 : decode cL_law_ 1410 = .ok (.aload_n 3, 1) := by decide +kernel
theorem dL_law__1411 : decode cL_law_ 1411 = .ok (.iconst 0, 1) := by decide +kernel
theorem dL_law__1412 : decode cL_law_ 1412 = .ok (.laload, 1) := by decide +kernel
theorem dL_law__1413 : decode cL_law_ 1413 = .ok (.lload 6, 2) := by decide +kernel
theorem dL_law__1415 : decode cL_law_ 1415 = .ok (.lcmp, 1) := by decide +kernel
theorem dL_law__1416 : decode cL_law_ 1416 = .ok (.ifCond .eq 5, 3) := by decide +kernel
theorem dL_law__1419 : decode cL_law_ 1419 = .ok (.iconst 0, 1) := by decide +kernel
theorem dL_law__1420 : decode cL_law_ 1420 = .ok (.ireturn, 1) := by decide +kernel
theorem dL_law__1421 : decode cL_law_ 1421 = .ok (.goto 988, 3) := by decide +kernel
theorem dL_law__1424 : decode cL_law_ 1424 = .ok (.aload_n 1, 1) := by decide +kernel
theorem dL_law__1425 : decode cL_law_ 1425 = .ok (.aload_n 0, 1) := by decide +kernel
theorem dL_law__1426 : decode cL_law_ 1426 = .ok (.iload 4, 2) := by decide +kernel
theorem dL_law__1428 : decode cL_law_ 1428 = .ok (.iconst 1, 1) := by decide +kernel
theorem dL_law__1429 : decode cL_law_ 1429 = .ok (.iadd, 1) := by decide +kernel
theorem dL_law__1430 : decode cL_law_ 1430 = .ok (.iaload, 1) := by decide +kernel
theorem dL_law__1431 : decode cL_law_ 1431 = .ok (.aload_n 0, 1) := by decide +kernel
theorem dL_law__1432 : decode cL_law_ 1432 = .ok (.iload 4, 2) := by decide +kernel
theorem dL_law__1434 : decode cL_law_ 1434 = .ok (.iconst 2, 1) := by decide +kernel
theorem dL_law__1435 : decode cL_law_ 1435 = .ok (.iadd, 1) := by decide +kernel
theorem dL_law__1436 : decode cL_law_ 1436 = .ok (.iaload, 1) := by decide +kernel
theorem dL_law__1437 : decode cL_law_ 1437 = .ok (.aload_n 0, 1) := by decide +kernel
theorem dL_law__1438 : decode cL_law_ 1438 = .ok (.iload 4, 2) := by decide +kernel
theorem dL_law__1440 : decode cL_law_ 1440 = .ok (.iconst 3, 1) := by decide +kernel
theorem dL_law__1441 : decode cL_law_ 1441 = .ok (.iadd, 1) := by decide +kernel
theorem dL_law__1442 : decode cL_law_ 1442 = .ok (.iaload, 1) := by decide +kernel
theorem dL_law__1443 : decode cL_law_ 1443 = .ok (.aload_n 3, 1) := by decide +kernel
theorem dL_law__1444 : decode cL_law_ 1444 = .ok (.invokestatic 185, 3) := by decide +kernel
theorem dL_law__1447 : decode cL_law_ 1447 = .ok (.istore 5, 2) := by decide +kernel
theorem dL_law__1449 : decode cL_law_ 1449 = .ok (.aload_n 2, 1) := by decide +kernel
theorem dL_law__1450 : decode cL_law_ 1450 = .ok (.aload_n 0, 1) := by decide +kernel
theorem dL_law__1451 : decode cL_law_ 1451 = .ok (.iload 4, 2) := by decide +kernel
theorem dL_law__1453 : decode cL_law_ 1453 = .ok (.iconst 1, 1) := by decide +kernel
theorem dL_law__1454 : decode cL_law_ 1454 = .ok (.iadd, 1) := by decide +kernel
theorem dL_law__1455 : decode cL_law_ 1455 = .ok (.iaload, 1) := by decide +kernel
theorem dL_law__1456 : decode cL_law_ 1456 = .ok (.aload_n 0, 1) := by decide +kernel
theorem dL_law__1457 : decode cL_law_ 1457 = .ok (.iload 4, 2) := by decide +kernel
theorem dL_law__1459 : decode cL_law_ 1459 = .ok (.iconst 2, 1) := by decide +kernel
theorem dL_law__1460 : decode cL_law_ 1460 = .ok (.iadd, 1) := by decide +kernel
theorem dL_law__1461 : decode cL_law_ 1461 = .ok (.iaload, 1) := by decide +kernel
theorem dL_law__1462 : decode cL_law_ 1462 = .ok (.aload_n 0, 1) := by decide +kernel
theorem dL_law__1463 : decode cL_law_ 1463 = .ok (.iload 4, 2) := by decide +kernel
theorem dL_law__1465 : decode cL_law_ 1465 = .ok (.iconst 3, 1) := by decide +kernel
theorem dL_law__1466 : decode cL_law_ 1466 = .ok (.iadd, 1) := by decide +kernel
theorem dL_law__1467 : decode cL_law_ 1467 = .ok (.iaload, 1) := by decide +kernel
theorem dL_law__1468 : decode cL_law_ 1468 = .ok (.invokevirtual 187, 3) := by decide +kernel
theorem dL_law__1471 : decode cL_law_ 1471 = .ok (.lstore 6, 2) := by decide +kernel
theorem dL_law__1473 : decode cL_law_ 1473 = .ok (.aload_n 2, 1) := by decide +kernel
theorem dL_law__1474 : decode cL_law_ 1474 = .ok (.invokevirtual 121, 3) := by decide +kernel
theorem dL_law__1477 : decode cL_law_ 1477 = .ok (.iload 5, 2) := by decide +kernel
theorem dL_law__1479 : decode cL_law_ 1479 = .ok (.if_icmp .eq 5, 3) := by decide +kernel
theorem dL_law__1482 : decode cL_law_ 1482 = .ok (.iconst 0, 1) := by decide +kernel
theorem dL_law__1483 : decode cL_law_ 1483 = .ok (.ireturn, 1) := by decide +kernel
theorem dL_law__1484 : decode cL_law_ 1484 = .ok (.iload 5, 2) := by decide +kernel
theorem dL_law__1486 : decode cL_law_ 1486 = .ok (.ifCond .ne 14, 3) := by decide +kernel
theorem dL_law__1489 : decode cL_law_ 1489 = .ok (.aload_n 3, 1) := by decide +kernel
theorem dL_law__1490 : decode cL_law_ 1490 = .ok (.iconst 0, 1) := by decide +kernel
theorem dL_law__1491 : decode cL_law_ 1491 = .ok (.laload, 1) := by decide +kernel
theorem dL_law__1492 : decode cL_law_ 1492 = .ok (.lload 6, 2) := by decide +kernel
theorem dL_law__1494 : decode cL_law_ 1494 = .ok (.lcmp, 1) := by decide +kernel
theorem dL_law__1495 : decode cL_law_ 1495 = .ok (.ifCond .eq 5, 3) := by decide +kernel
theorem dL_law__1498 : decode cL_law_ 1498 = .ok (.iconst 0, 1) := by decide +kernel
theorem dL_law__1499 : decode cL_law_ 1499 = .ok (.ireturn, 1) := by decide +kernel
theorem dL_law__1500 : decode cL_law_ 1500 = .ok (.goto 909, 3) := by decide +kernel
theorem dL_law__1503 : decode cL_law_ 1503 = .ok (.aload_n 1, 1) := by decide +kernel
theorem dL_law__1504 : decode cL_law_ 1504 = .ok (.aload_n 0, 1) := by decide +kernel
theorem dL_law__1505 : decode cL_law_ 1505 = .ok (.iload 4, 2) := by decide +kernel
theorem dL_law__1507 : decode cL_law_ 1507 = .ok (.iconst 1, 1) := by decide +kernel
theorem dL_law__1508 : decode cL_law_ 1508 = .ok (.iadd, 1) := by decide +kernel
theorem dL_law__1509 : decode cL_law_ 1509 = .ok (.iaload, 1) := by decide +kernel
theorem dL_law__1510 : decode cL_law_ 1510 = .ok (.aload_n 3, 1) := by decide +kernel
theorem dL_law__1511 : decode cL_law_ 1511 = .ok (.invokestatic 188, 3) := by decide +kernel
theorem dL_law__1514 : decode cL_law_ 1514 = .ok (.istore 5, 2) := by decide +kernel
theorem dL_law__1516 : decode cL_law_ 1516 = .ok (.aload_n 2, 1) := by decide +kernel
theorem dL_law__1517 : decode cL_law_ 1517 = .ok (.aload_n 0, 1) := by decide +kernel
theorem dL_law__1518 : decode cL_law_ 1518 = .ok (.iload 4, 2) := by decide +kernel
theorem dL_law__1520 : decode cL_law_ 1520 = .ok (.iconst 1, 1) := by decide +kernel
theorem dL_law__1521 : decode cL_law_ 1521 = .ok (.iadd, 1) := by decide +kernel
theorem dL_law__1522 : decode cL_law_ 1522 = .ok (.iaload, 1) := by decide +kernel
theorem dL_law__1523 : decode cL_law_ 1523 = .ok (.invokevirtual 190, 3) := by decide +kernel
theorem dL_law__1526 : decode cL_law_ 1526 = .ok (.istore 6, 2) := by decide +kernel
theorem dL_law__1528 : decode cL_law_ 1528 = .ok (.aload_n 2, 1) := by decide +kernel
theorem dL_law__1529 : decode cL_law_ 1529 = .ok (.invokevirtual 121, 3) := by decide +kernel
theorem dL_law__1532 : decode cL_law_ 1532 = .ok (.iload 5, 2) := by decide +kernel
theorem dL_law__1534 : decode cL_law_ 1534 = .ok (.if_icmp .eq 5, 3) := by decide +kernel
theorem dL_law__1537 : decode cL_law_ 1537 = .ok (.iconst 0, 1) := by decide +kernel
theorem dL_law__1538 : decode cL_law_ 1538 = .ok (.ireturn, 1) := by decide +kernel
theorem dL_law__1539 : decode cL_law_ 1539 = .ok (.iload 5, 2) := by decide +kernel
theorem dL_law__1541 : decode cL_law_ 1541 = .ok (.ifCond .ne 15, 3) := by decide +kernel
theorem dL_law__1544 : decode cL_law_ 1544 = .ok (.aload_n 3, 1) := by decide +kernel
theorem dL_law__1545 : decode cL_law_ 1545 = .ok (.iconst 0, 1) := by decide +kernel
theorem dL_law__1546 : decode cL_law_ 1546 = .ok (.laload, 1) := by decide +kernel
theorem dL_law__1547 : decode cL_law_ 1547 = .ok (.iload 6, 2) := by decide +kernel
theorem dL_law__1549 : decode cL_law_ 1549 = .ok (.i2l, 1) := by decide +kernel
theorem dL_law__1550 : decode cL_law_ 1550 = .ok (.lcmp, 1) := by decide +kernel
theorem dL_law__1551 : decode cL_law_ 1551 = .ok (.ifCond .eq 5, 3) := by decide +kernel
theorem dL_law__1554 : decode cL_law_ 1554 = .ok (.iconst 0, 1) := by decide +kernel
theorem dL_law__1555 : decode cL_law_ 1555 = .ok (.ireturn, 1) := by decide +kernel
theorem dL_law__1556 : decode cL_law_ 1556 = .ok (.goto 853, 3) := by decide +kernel
theorem dL_law__1559 : decode cL_law_ 1559 = .ok (.aload_n 1, 1) := by decide +kernel
theorem dL_law__1560 : decode cL_law_ 1560 = .ok (.aload_n 0, 1) := by decide +kernel
theorem dL_law__1561 : decode cL_law_ 1561 = .ok (.iload 4, 2) := by decide +kernel
theorem dL_law__1563 : decode cL_law_ 1563 = .ok (.iconst 1, 1) := by decide +kernel
theorem dL_law__1564 : decode cL_law_ 1564 = .ok (.iadd, 1) := by decide +kernel
theorem dL_law__1565 : decode cL_law_ 1565 = .ok (.iaload, 1) := by decide +kernel
theorem dL_law__1566 : decode cL_law_ 1566 = .ok (.aload_n 0, 1) := by decide +kernel
theorem dL_law__1567 : decode cL_law_ 1567 = .ok (.iload 4, 2) := by decide +kernel
theorem dL_law__1569 : decode cL_law_ 1569 = .ok (.iconst 2, 1) := by decide +kernel
theorem dL_law__1570 : decode cL_law_ 1570 = .ok (.iadd, 1) := by decide +kernel
theorem dL_law__1571 : decode cL_law_ 1571 = .ok (.iaload, 1) := by decide +kernel
theorem dL_law__1572 : decode cL_law_ 1572 = .ok (.aload_n 3, 1) := by decide +kernel
theorem dL_law__1573 : decode cL_law_ 1573 = .ok (.invokestatic 191, 3) := by decide +kernel
theorem dL_law__1576 : decode cL_law_ 1576 = .ok (.istore 5, 2) := by decide +kernel
theorem dL_law__1578 : decode cL_law_ 1578 = .ok (.aload_n 2, 1) := by decide +kernel
theorem dL_law__1579 : decode cL_law_ 1579 = .ok (.aload_n 0, 1) := by decide +kernel
theorem dL_law__1580 : decode cL_law_ 1580 = .ok (.iload 4, 2) := by decide +kernel
theorem dL_law__1582 : decode cL_law_ 1582 = .ok (.iconst 1, 1) := by decide +kernel
theorem dL_law__1583 : decode cL_law_ 1583 = .ok (.iadd, 1) := by decide +kernel
theorem dL_law__1584 : decode cL_law_ 1584 = .ok (.iaload, 1) := by decide +kernel
theorem dL_law__1585 : decode cL_law_ 1585 = .ok (.aload_n 0, 1) := by decide +kernel
theorem dL_law__1586 : decode cL_law_ 1586 = .ok (.iload 4, 2) := by decide +kernel
theorem dL_law__1588 : decode cL_law_ 1588 = .ok (.iconst 2, 1) := by decide +kernel
theorem dL_law__1589 : decode cL_law_ 1589 = .ok (.iadd, 1) := by decide +kernel
theorem dL_law__1590 : decode cL_law_ 1590 = .ok (.iaload, 1) := by decide +kernel
theorem dL_law__1591 : decode cL_law_ 1591 = .ok (.invokevirtual 193, 3) := by decide +kernel
theorem dL_law__1594 : decode cL_law_ 1594 = .ok (.istore 6, 2) := by decide +kernel
theorem dL_law__1596 : decode cL_law_ 1596 = .ok (.aload_n 2, 1) := by decide +kernel
theorem dL_law__1597 : decode cL_law_ 1597 = .ok (.invokevirtual 121, 3) := by decide +kernel
theorem dL_law__1600 : decode cL_law_ 1600 = .ok (.iload 5, 2) := by decide +kernel
theorem dL_law__1602 : decode cL_law_ 1602 = .ok (.if_icmp .eq 5, 3) := by decide +kernel
theorem dL_law__1605 : decode cL_law_ 1605 = .ok (.iconst 0, 1) := by decide +kernel
theorem dL_law__1606 : decode cL_law_ 1606 = .ok (.ireturn, 1) := by decide +kernel
theorem dL_law__1607 : decode cL_law_ 1607 = .ok (.iload 5, 2) := by decide +kernel
theorem dL_law__1609 : decode cL_law_ 1609 = .ok (.ifCond .ne 15, 3) := by decide +kernel
theorem dL_law__1612 : decode cL_law_ 1612 = .ok (.aload_n 3, 1) := by decide +kernel
theorem dL_law__1613 : decode cL_law_ 1613 = .ok (.iconst 0, 1) := by decide +kernel
theorem dL_law__1614 : decode cL_law_ 1614 = .ok (.laload, 1) := by decide +kernel
theorem dL_law__1615 : decode cL_law_ 1615 = .ok (.iload 6, 2) := by decide +kernel
theorem dL_law__1617 : decode cL_law_ 1617 = .ok (.i2l, 1) := by decide +kernel
theorem dL_law__1618 : decode cL_law_ 1618 = .ok (.lcmp, 1) := by decide +kernel
theorem dL_law__1619 : decode cL_law_ 1619 = .ok (.ifCond .eq 5, 3) := by decide +kernel
theorem dL_law__1622 : decode cL_law_ 1622 = .ok (.iconst 0, 1) := by decide +kernel
theorem dL_law__1623 : decode cL_law_ 1623 = .ok (.ireturn, 1) := by decide +kernel
theorem dL_law__1624 : decode cL_law_ 1624 = .ok (.goto 785, 3) := by decide +kernel
theorem dL_law__1627 : decode cL_law_ 1627 = .ok (.aload_n 1, 1) := by decide +kernel
theorem dL_law__1628 : decode cL_law_ 1628 = .ok (.aload_n 0, 1) := by decide +kernel
theorem dL_law__1629 : decode cL_law_ 1629 = .ok (.iload 4, 2) := by decide +kernel
theorem dL_law__1631 : decode cL_law_ 1631 = .ok (.iconst 1, 1) := by decide +kernel
theorem dL_law__1632 : decode cL_law_ 1632 = .ok (.iadd, 1) := by decide +kernel
theorem dL_law__1633 : decode cL_law_ 1633 = .ok (.iaload, 1) := by decide +kernel
theorem dL_law__1634 : decode cL_law_ 1634 = .ok (.aload_n 0, 1) := by decide +kernel
theorem dL_law__1635 : decode cL_law_ 1635 = .ok (.iload 4, 2) := by decide +kernel
theorem dL_law__1637 : decode cL_law_ 1637 = .ok (.iconst 2, 1) := by decide +kernel
theorem dL_law__1638 : decode cL_law_ 1638 = .ok (.iadd, 1) := by decide +kernel
theorem dL_law__1639 : decode cL_law_ 1639 = .ok (.iaload, 1) := by decide +kernel
theorem dL_law__1640 : decode cL_law_ 1640 = .ok (.aload_n 0, 1) := by decide +kernel
theorem dL_law__1641 : decode cL_law_ 1641 = .ok (.iload 4, 2) := by decide +kernel
theorem dL_law__1643 : decode cL_law_ 1643 = .ok (.iconst 3, 1) := by decide +kernel
theorem dL_law__1644 : decode cL_law_ 1644 = .ok (.iadd, 1) := by decide +kernel
theorem dL_law__1645 : decode cL_law_ 1645 = .ok (.iaload, 1) := by decide +kernel
theorem dL_law__1646 : decode cL_law_ 1646 = .ok (.aload_n 3, 1) := by decide +kernel
theorem dL_law__1647 : decode cL_law_ 1647 = .ok (.invokestatic 194, 3) := by decide +kernel
theorem dL_law__1650 : decode cL_law_ 1650 = .ok (.istore 5, 2) := by decide +kernel
theorem dL_law__1652 : decode cL_law_ 1652 = .ok (.aload_n 2, 1) := by decide +kernel
theorem dL_law__1653 : decode cL_law_ 1653 = .ok (.aload_n 0, 1) := by decide +kernel
theorem dL_law__1654 : decode cL_law_ 1654 = .ok (.iload 4, 2) := by decide +kernel
theorem dL_law__1656 : decode cL_law_ 1656 = .ok (.iconst 1, 1) := by decide +kernel
theorem dL_law__1657 : decode cL_law_ 1657 = .ok (.iadd, 1) := by decide +kernel
theorem dL_law__1658 : decode cL_law_ 1658 = .ok (.iaload, 1) := by decide +kernel
theorem dL_law__1659 : decode cL_law_ 1659 = .ok (.aload_n 0, 1) := by decide +kernel
theorem dL_law__1660 : decode cL_law_ 1660 = .ok (.iload 4, 2) := by decide +kernel
theorem dL_law__1662 : decode cL_law_ 1662 = .ok (.iconst 2, 1) := by decide +kernel
theorem dL_law__1663 : decode cL_law_ 1663 = .ok (.iadd, 1) := by decide +kernel
theorem dL_law__1664 : decode cL_law_ 1664 = .ok (.iaload, 1) := by decide +kernel
theorem dL_law__1665 : decode cL_law_ 1665 = .ok (.aload_n 0, 1) := by decide +kernel
theorem dL_law__1666 : decode cL_law_ 1666 = .ok (.iload 4, 2) := by decide +kernel
theorem dL_law__1668 : decode cL_law_ 1668 = .ok (.iconst 3, 1) := by decide +kernel
theorem dL_law__1669 : decode cL_law_ 1669 = .ok (.iadd, 1) := by decide +kernel
theorem dL_law__1670 : decode cL_law_ 1670 = .ok (.iaload, 1) := by decide +kernel
theorem dL_law__1671 : decode cL_law_ 1671 = .ok (.invokevirtual 196, 3) := by decide +kernel
theorem dL_law__1674 : decode cL_law_ 1674 = .ok (.istore 6, 2) := by decide +kernel
theorem dL_law__1676 : decode cL_law_ 1676 = .ok (.aload_n 2, 1) := by decide +kernel
theorem dL_law__1677 : decode cL_law_ 1677 = .ok (.invokevirtual 121, 3) := by decide +kernel
theorem dL_law__1680 : decode cL_law_ 1680 = .ok (.iload 5, 2) := by decide +kernel
theorem dL_law__1682 : decode cL_law_ 1682 = .ok (.if_icmp .eq 5, 3) := by decide +kernel
theorem dL_law__1685 : decode cL_law_ 1685 = .ok (.iconst 0, 1) := by decide +kernel
theorem dL_law__1686 : decode cL_law_ 1686 = .ok (.ireturn, 1) := by decide +kernel
theorem dL_law__1687 : decode cL_law_ 1687 = .ok (.iload 5, 2) := by decide +kernel
theorem dL_law__1689 : decode cL_law_ 1689 = .ok (.ifCond .ne 15, 3) := by decide +kernel
theorem dL_law__1692 : decode cL_law_ 1692 = .ok (.aload_n 3, 1) := by decide +kernel
theorem dL_law__1693 : decode cL_law_ 1693 = .ok (.iconst 0, 1) := by decide +kernel
theorem dL_law__1694 : decode cL_law_ 1694 = .ok (.laload, 1) := by decide +kernel
theorem dL_law__1695 : decode cL_law_ 1695 = .ok (.iload 6, 2) := by decide +kernel
theorem dL_law__1697 : decode cL_law_ 1697 = .ok (.i2l, 1) := by decide +kernel
theorem dL_law__1698 : decode cL_law_ 1698 = .ok (.lcmp, 1) := by decide +kernel
theorem dL_law__1699 : decode cL_law_ 1699 = .ok (.ifCond .eq 5, 3) := by decide +kernel
theorem dL_law__1702 : decode cL_law_ 1702 = .ok (.iconst 0, 1) := by decide +kernel
theorem dL_law__1703 : decode cL_law_ 1703 = .ok (.ireturn, 1) := by decide +kernel
theorem dL_law__1704 : decode cL_law_ 1704 = .ok (.goto 705, 3) := by decide +kernel
theorem dL_law__1707 : decode cL_law_ 1707 = .ok (.aload_n 1, 1) := by decide +kernel
theorem dL_law__1708 : decode cL_law_ 1708 = .ok (.aload_n 0, 1) := by decide +kernel
theorem dL_law__1709 : decode cL_law_ 1709 = .ok (.iload 4, 2) := by decide +kernel
theorem dL_law__1711 : decode cL_law_ 1711 = .ok (.iconst 1, 1) := by decide +kernel
theorem dL_law__1712 : decode cL_law_ 1712 = .ok (.iadd, 1) := by decide +kernel
theorem dL_law__1713 : decode cL_law_ 1713 = .ok (.iaload, 1) := by decide +kernel
theorem dL_law__1714 : decode cL_law_ 1714 = .ok (.aload_n 0, 1) := by decide +kernel
theorem dL_law__1715 : decode cL_law_ 1715 = .ok (.iload 4, 2) := by decide +kernel
theorem dL_law__1717 : decode cL_law_ 1717 = .ok (.iconst 2, 1) := by decide +kernel
theorem dL_law__1718 : decode cL_law_ 1718 = .ok (.iadd, 1) := by decide +kernel
theorem dL_law__1719 : decode cL_law_ 1719 = .ok (.iaload, 1) := by decide +kernel
theorem dL_law__1720 : decode cL_law_ 1720 = .ok (.aload_n 0, 1) := by decide +kernel
theorem dL_law__1721 : decode cL_law_ 1721 = .ok (.iload 4, 2) := by decide +kernel
theorem dL_law__1723 : decode cL_law_ 1723 = .ok (.iconst 3, 1) := by decide +kernel
theorem dL_law__1724 : decode cL_law_ 1724 = .ok (.iadd, 1) := by decide +kernel
theorem dL_law__1725 : decode cL_law_ 1725 = .ok (.iaload, 1) := by decide +kernel
theorem dL_law__1726 : decode cL_law_ 1726 = .ok (.aload_n 3, 1) := by decide +kernel
theorem dL_law__1727 : decode cL_law_ 1727 = .ok (.invokestatic 197, 3) := by decide +kernel
theorem dL_law__1730 : decode cL_law_ 1730 = .ok (.istore 5, 2) := by decide +kernel
theorem dL_law__1732 : decode cL_law_ 1732 = .ok (.aload_n 2, 1) := by decide +kernel
theorem dL_law__1733 : decode cL_law_ 1733 = .ok (.aload_n 0, 1) := by decide +kernel
theorem dL_law__1734 : decode cL_law_ 1734 = .ok (.iload 4, 2) := by decide +kernel
theorem dL_law__1736 : decode cL_law_ 1736 = .ok (.iconst 1, 1) := by decide +kernel
theorem dL_law__1737 : decode cL_law_ 1737 = .ok (.iadd, 1) := by decide +kernel
theorem dL_law__1738 : decode cL_law_ 1738 = .ok (.iaload, 1) := by decide +kernel
theorem dL_law__1739 : decode cL_law_ 1739 = .ok (.aload_n 0, 1) := by decide +kernel
theorem dL_law__1740 : decode cL_law_ 1740 = .ok (.iload 4, 2) := by decide +kernel
theorem dL_law__1742 : decode cL_law_ 1742 = .ok (.iconst 2, 1) := by decide +kernel
theorem dL_law__1743 : decode cL_law_ 1743 = .ok (.iadd, 1) := by decide +kernel
theorem dL_law__1744 : decode cL_law_ 1744 = .ok (.iaload, 1) := by decide +kernel
theorem dL_law__1745 : decode cL_law_ 1745 = .ok (.aload_n 0, 1) := by decide +kernel
theorem dL_law__1746 : decode cL_law_ 1746 = .ok (.iload 4, 2) := by decide +kernel
theorem dL_law__1748 : decode cL_law_ 1748 = .ok (.iconst 3, 1) := by decide +kernel
theorem dL_law__1749 : decode cL_law_ 1749 = .ok (.iadd, 1) := by decide +kernel
theorem dL_law__1750 : decode cL_law_ 1750 = .ok (.iaload, 1) := by decide +kernel
theorem dL_law__1751 : decode cL_law_ 1751 = .ok (.invokevirtual 199, 3) := by decide +kernel
theorem dL_law__1754 : decode cL_law_ 1754 = .ok (.istore 6, 2) := by decide +kernel
theorem dL_law__1756 : decode cL_law_ 1756 = .ok (.aload_n 2, 1) := by decide +kernel
theorem dL_law__1757 : decode cL_law_ 1757 = .ok (.invokevirtual 121, 3) := by decide +kernel
theorem dL_law__1760 : decode cL_law_ 1760 = .ok (.iload 5, 2) := by decide +kernel
theorem dL_law__1762 : decode cL_law_ 1762 = .ok (.if_icmp .eq 5, 3) := by decide +kernel
theorem dL_law__1765 : decode cL_law_ 1765 = .ok (.iconst 0, 1) := by decide +kernel
theorem dL_law__1766 : decode cL_law_ 1766 = .ok (.ireturn, 1) := by decide +kernel
theorem dL_law__1767 : decode cL_law_ 1767 = .ok (.iload 5, 2) := by decide +kernel
theorem dL_law__1769 : decode cL_law_ 1769 = .ok (.ifCond .ne 15, 3) := by decide +kernel
theorem dL_law__1772 : decode cL_law_ 1772 = .ok (.aload_n 3, 1) := by decide +kernel
theorem dL_law__1773 : decode cL_law_ 1773 = .ok (.iconst 0, 1) := by decide +kernel
theorem dL_law__1774 : decode cL_law_ 1774 = .ok (.laload, 1) := by decide +kernel
theorem dL_law__1775 : decode cL_law_ 1775 = .ok (.iload 6, 2) := by decide +kernel
theorem dL_law__1777 : decode cL_law_ 1777 = .ok (.i2l, 1) := by decide +kernel
theorem dL_law__1778 : decode cL_law_ 1778 = .ok (.lcmp, 1) := by decide +kernel
theorem dL_law__1779 : decode cL_law_ 1779 = .ok (.ifCond .eq 5, 3) := by decide +kernel
theorem dL_law__1782 : decode cL_law_ 1782 = .ok (.iconst 0, 1) := by decide +kernel
theorem dL_law__1783 : decode cL_law_ 1783 = .ok (.ireturn, 1) := by decide +kernel
theorem dL_law__1784 : decode cL_law_ 1784 = .ok (.goto 625, 3) := by decide +kernel
theorem dL_law__1787 : decode cL_law_ 1787 = .ok (.aload_n 1, 1) := by decide +kernel
theorem dL_law__1788 : decode cL_law_ 1788 = .ok (.aload_n 0, 1) := by decide +kernel
theorem dL_law__1789 : decode cL_law_ 1789 = .ok (.iload 4, 2) := by decide +kernel
theorem dL_law__1791 : decode cL_law_ 1791 = .ok (.iconst 1, 1) := by decide +kernel
theorem dL_law__1792 : decode cL_law_ 1792 = .ok (.iadd, 1) := by decide +kernel
theorem dL_law__1793 : decode cL_law_ 1793 = .ok (.iaload, 1) := by decide +kernel
theorem dL_law__1794 : decode cL_law_ 1794 = .ok (.aload_n 3, 1) := by decide +kernel
theorem dL_law__1795 : decode cL_law_ 1795 = .ok (.invokestatic 200, 3) := by decide +kernel
theorem dL_law__1798 : decode cL_law_ 1798 = .ok (.istore 5, 2) := by decide +kernel
theorem dL_law__1800 : decode cL_law_ 1800 = .ok (.aload_n 2, 1) := by decide +kernel
theorem dL_law__1801 : decode cL_law_ 1801 = .ok (.aload_n 0, 1) := by decide +kernel
theorem dL_law__1802 : decode cL_law_ 1802 = .ok (.iload 4, 2) := by decide +kernel
theorem dL_law__1804 : decode cL_law_ 1804 = .ok (.iconst 1, 1) := by decide +kernel
theorem dL_law__1805 : decode cL_law_ 1805 = .ok (.iadd, 1) := by decide +kernel
theorem dL_law__1806 : decode cL_law_ 1806 = .ok (.iaload, 1) := by decide +kernel
theorem dL_law__1807 : decode cL_law_ 1807 = .ok (.invokevirtual 202, 3) := by decide +kernel
theorem dL_law__1810 : decode cL_law_ 1810 = .ok (.istore 6, 2) := by decide +kernel
theorem dL_law__1812 : decode cL_law_ 1812 = .ok (.aload_n 2, 1) := by decide +kernel
theorem dL_law__1813 : decode cL_law_ 1813 = .ok (.invokevirtual 121, 3) := by decide +kernel
theorem dL_law__1816 : decode cL_law_ 1816 = .ok (.iload 5, 2) := by decide +kernel
theorem dL_law__1818 : decode cL_law_ 1818 = .ok (.if_icmp .eq 5, 3) := by decide +kernel
theorem dL_law__1821 : decode cL_law_ 1821 = .ok (.iconst 0, 1) := by decide +kernel
theorem dL_law__1822 : decode cL_law_ 1822 = .ok (.ireturn, 1) := by decide +kernel
theorem dL_law__1823 : decode cL_law_ 1823 = .ok (.iload 5, 2) := by decide +kernel
theorem dL_law__1825 : decode cL_law_ 1825 = .ok (.ifCond .ne 15, 3) := by decide +kernel
theorem dL_law__1828 : decode cL_law_ 1828 = .ok (.aload_n 3, 1) := by decide +kernel
theorem dL_law__1829 : decode cL_law_ 1829 = .ok (.iconst 0, 1) := by decide +kernel
theorem dL_law__1830 : decode cL_law_ 1830 = .ok (.laload, 1) := by decide +kernel
theorem dL_law__1831 : decode cL_law_ 1831 = .ok (.iload 6, 2) := by decide +kernel
theorem dL_law__1833 : decode cL_law_ 1833 = .ok (.i2l, 1) := by decide +kernel
theorem dL_law__1834 : decode cL_law_ 1834 = .ok (.lcmp, 1) := by decide +kernel
theorem dL_law__1835 : decode cL_law_ 1835 = .ok (.ifCond .eq 5, 3) := by decide +kernel
theorem dL_law__1838 : decode cL_law_ 1838 = .ok (.iconst 0, 1) := by decide +kernel
theorem dL_law__1839 : decode cL_law_ 1839 = .ok (.ireturn, 1) := by decide +kernel
theorem dL_law__1840 : decode cL_law_ 1840 = .ok (.goto 569, 3) := by decide +kernel
theorem dL_law__1843 : decode cL_law_ 1843 = .ok (.aload_n 1, 1) := by decide +kernel
theorem dL_law__1844 : decode cL_law_ 1844 = .ok (.invokevirtual 203, 3) := by decide +kernel
theorem dL_law__1847 : decode cL_law_ 1847 = .ok (.aload_n 2, 1) := by decide +kernel
theorem dL_law__1848 : decode cL_law_ 1848 = .ok (.invokevirtual 206, 3) := by decide +kernel
theorem dL_law__1851 : decode cL_law_ 1851 = .ok (.if_icmp .eq 558, 3) := by decide +kernel
theorem dL_law__1854 : decode cL_law_ 1854 = .ok (.iconst 0, 1) := by decide +kernel
theorem dL_law__1855 : decode cL_law_ 1855 = .ok (.ireturn, 1) := by decide +kernel
theorem dL_law__1856 : decode cL_law_ 1856 = .ok (.aload_n 1, 1) := by decide +kernel
theorem dL_law__1857 : decode cL_law_ 1857 = .ok (.aload_n 0, 1) := by decide +kernel
theorem dL_law__1858 : decode cL_law_ 1858 = .ok (.iload 4, 2) := by decide +kernel
theorem dL_law__1860 : decode cL_law_ 1860 = .ok (.iconst 1, 1) := by decide +kernel
theorem dL_law__1861 : decode cL_law_ 1861 = .ok (.iadd, 1) := by decide +kernel
theorem dL_law__1862 : decode cL_law_ 1862 = .ok (.iaload, 1) := by decide +kernel
theorem dL_law__1863 : decode cL_law_ 1863 = .ok (.aload_n 3, 1) := by decide +kernel
theorem dL_law__1864 : decode cL_law_ 1864 = .ok (.invokestatic 207, 3) := by decide +kernel
theorem dL_law__1867 : decode cL_law_ 1867 = .ok (.istore 5, 2) := by decide +kernel
theorem dL_law__1869 : decode cL_law_ 1869 = .ok (.aload_n 2, 1) := by decide +kernel
theorem dL_law__1870 : decode cL_law_ 1870 = .ok (.aload_n 0, 1) := by decide +kernel
theorem dL_law__1871 : decode cL_law_ 1871 = .ok (.iload 4, 2) := by decide +kernel
theorem dL_law__1873 : decode cL_law_ 1873 = .ok (.iconst 1, 1) := by decide +kernel
theorem dL_law__1874 : decode cL_law_ 1874 = .ok (.iadd, 1) := by decide +kernel
theorem dL_law__1875 : decode cL_law_ 1875 = .ok (.iaload, 1) := by decide +kernel
theorem dL_law__1876 : decode cL_law_ 1876 = .ok (.invokevirtual 209, 3) := by decide +kernel
theorem dL_law__1879 : decode cL_law_ 1879 = .ok (.istore 6, 2) := by decide +kernel
theorem dL_law__1881 : decode cL_law_ 1881 = .ok (.aload_n 2, 1) := by decide +kernel
theorem dL_law__1882 : decode cL_law_ 1882 = .ok (.invokevirtual 121, 3) := by decide +kernel
theorem dL_law__1885 : decode cL_law_ 1885 = .ok (.iload 5, 2) := by decide +kernel
theorem dL_law__1887 : decode cL_law_ 1887 = .ok (.if_icmp .eq 5, 3) := by decide +kernel
theorem dL_law__1890 : decode cL_law_ 1890 = .ok (.iconst 0, 1) := by decide +kernel
theorem dL_law__1891 : decode cL_law_ 1891 = .ok (.ireturn, 1) := by decide +kernel
theorem dL_law__1892 : decode cL_law_ 1892 = .ok (.iload 5, 2) := by decide +kernel
