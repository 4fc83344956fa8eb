/-- the law's own body, under any name -/
def m_L (nm : String) : zMD := (⟨"BucketSheetLaw", nm, "([I)Z"⟩, code, 4, ret, room_1, 600000, 7302250)
set_option maxRecDepth 20000 in
theorem eg_L_0 : decode code 0 = .ok (.new 7, 3) ∧ decode code 3 = .ok (.dup, 1) ∧ decode code 4 = .ok (.invokespecial 9, 3) ∧ decode code 7 = .ok (.astore_n 1, 1) ∧ decode code 8 = .ok (.new 10, 3) ∧ decode code 11 = .ok (.dup, 1) ∧ decode code 12 = .ok (.invokespecial 12, 3) ∧ decode code 15 = .ok (.astore_n 2, 1) := by decide +kernel
set_option maxRecDepth 20000 in
theorem eg_L_8 : decode code 16 = .ok (.iconst 0, 1) ∧ decode code 17 = .ok (.istore_n 3, 1) ∧ decode code 18 = .ok (.iload_n 3, 1) ∧ decode code 19 = .ok (.aload_n 0, 1) ∧ decode code 20 = .ok (.arraylength, 1) ∧ decode code 21 = .ok (.iconst 5, 1) ∧ decode code 22 = .ok (.isub, 1) ∧ decode code 23 = .ok (.if_icmp .gt (1160), 3) := by decide +kernel
set_option maxRecDepth 20000 in
theorem eg_L_16 : decode code 26 = .ok (.aload_n 0, 1) ∧ decode code 27 = .ok (.iload_n 3, 1) ∧ decode code 28 = .ok (.iaload, 1) ∧ decode code 29 = .ok (.bipush 63, 2) ∧ decode code 31 = .ok (.iand, 1) ∧ decode code 32 = .ok (.tableswitch 1145 0 36 #[164, 217, 240, 253, 266, 289, 322, 355, 378, 391, 404, 427, 450, 463, 516, 559, 582, 605, 628, 651, 664, 687, 720, 743, 766, 779, 802, 825, 858, 881, 924, 947, 970, 1013, 1056, 1109, 1122], 164) ∧ decode code 196 = .ok (.aload_n 1, 1) ∧ decode code 197 = .ok (.aload_n 0, 1) := by decide +kernel
set_option maxRecDepth 20000 in
theorem eg_L_24 : decode code 198 = .ok (.iload_n 3, 1) ∧ decode code 199 = .ok (.iconst 1, 1) ∧ decode code 200 = .ok (.iadd, 1) ∧ decode code 201 = .ok (.iaload, 1) ∧ decode code 202 = .ok (.i2l, 1) ∧ decode code 203 = .ok (.bipush 32, 2) ∧ decode code 205 = .ok (.lshl, 1) ∧ decode code 206 = .ok (.aload_n 0, 1) := by decide +kernel
set_option maxRecDepth 20000 in
theorem eg_L_32 : decode code 207 = .ok (.iload_n 3, 1) ∧ decode code 208 = .ok (.iconst 2, 1) ∧ decode code 209 = .ok (.iadd, 1) ∧ decode code 210 = .ok (.iaload, 1) ∧ decode code 211 = .ok (.i2l, 1) ∧ decode code 212 = .ok (.ldc2_w 13, 3) ∧ decode code 215 = .ok (.land, 1) ∧ decode code 216 = .ok (.lor, 1) := by decide +kernel
set_option maxRecDepth 20000 in
theorem eg_L_40 : decode code 217 = .ok (.invokevirtual 15, 3) ∧ decode code 220 = .ok (.pop, 1) ∧ decode code 221 = .ok (.aload_n 2, 1) ∧ decode code 222 = .ok (.aload_n 0, 1) ∧ decode code 223 = .ok (.iload_n 3, 1) ∧ decode code 224 = .ok (.iconst 1, 1) ∧ decode code 225 = .ok (.iadd, 1) ∧ decode code 226 = .ok (.iaload, 1) := by decide +kernel
set_option maxRecDepth 20000 in
theorem eg_L_48 : decode code 227 = .ok (.i2l, 1) ∧ decode code 228 = .ok (.bipush 32, 2) ∧ decode code 230 = .ok (.lshl, 1) ∧ decode code 231 = .ok (.aload_n 0, 1) ∧ decode code 232 = .ok (.iload_n 3, 1) ∧ decode code 233 = .ok (.iconst 2, 1) ∧ decode code 234 = .ok (.iadd, 1) ∧ decode code 235 = .ok (.iaload, 1) := by decide +kernel
set_option maxRecDepth 20000 in
theorem eg_L_56 : decode code 236 = .ok (.i2l, 1) ∧ decode code 237 = .ok (.ldc2_w 13, 3) ∧ decode code 240 = .ok (.land, 1) ∧ decode code 241 = .ok (.lor, 1) ∧ decode code 242 = .ok (.invokevirtual 19, 3) ∧ decode code 245 = .ok (.pop, 1) ∧ decode code 246 = .ok (.goto (931), 3) ∧ decode code 249 = .ok (.aload_n 1, 1) := by decide +kernel
set_option maxRecDepth 20000 in
theorem eg_L_64 : decode code 250 = .ok (.aload_n 0, 1) ∧ decode code 251 = .ok (.iload_n 3, 1) ∧ decode code 252 = .ok (.iconst 1, 1) ∧ decode code 253 = .ok (.iadd, 1) ∧ decode code 254 = .ok (.iaload, 1) ∧ decode code 255 = .ok (.invokevirtual 20, 3) ∧ decode code 258 = .ok (.pop, 1) ∧ decode code 259 = .ok (.aload_n 2, 1) := by decide +kernel
set_option maxRecDepth 20000 in
theorem eg_L_72 : decode code 260 = .ok (.aload_n 0, 1) ∧ decode code 261 = .ok (.iload_n 3, 1) ∧ decode code 262 = .ok (.iconst 1, 1) ∧ decode code 263 = .ok (.iadd, 1) ∧ decode code 264 = .ok (.iaload, 1) ∧ decode code 265 = .ok (.invokevirtual 24, 3) ∧ decode code 268 = .ok (.pop, 1) ∧ decode code 269 = .ok (.goto (908), 3) := by decide +kernel
set_option maxRecDepth 20000 in
theorem eg_L_80 : decode code 272 = .ok (.aload_n 1, 1) ∧ decode code 273 = .ok (.invokevirtual 25, 3) ∧ decode code 276 = .ok (.pop, 1) ∧ decode code 277 = .ok (.aload_n 2, 1) ∧ decode code 278 = .ok (.invokevirtual 29, 3) ∧ decode code 281 = .ok (.pop, 1) ∧ decode code 282 = .ok (.goto (895), 3) ∧ decode code 285 = .ok (.aload_n 1, 1) := by decide +kernel
set_option maxRecDepth 20000 in
theorem eg_L_88 : decode code 286 = .ok (.invokevirtual 30, 3) ∧ decode code 289 = .ok (.pop, 1) ∧ decode code 290 = .ok (.aload_n 2, 1) ∧ decode code 291 = .ok (.invokevirtual 33, 3) ∧ decode code 294 = .ok (.pop, 1) ∧ decode code 295 = .ok (.goto (882), 3) ∧ decode code 298 = .ok (.aload_n 1, 1) ∧ decode code 299 = .ok (.aload_n 0, 1) := by decide +kernel
set_option maxRecDepth 20000 in
theorem eg_L_96 : decode code 300 = .ok (.iload_n 3, 1) ∧ decode code 301 = .ok (.iconst 1, 1) ∧ decode code 302 = .ok (.iadd, 1) ∧ decode code 303 = .ok (.iaload, 1) ∧ decode code 304 = .ok (.invokevirtual 34, 3) ∧ decode code 307 = .ok (.pop, 1) ∧ decode code 308 = .ok (.aload_n 2, 1) ∧ decode code 309 = .ok (.aload_n 0, 1) := by decide +kernel
set_option maxRecDepth 20000 in
theorem eg_L_104 : decode code 310 = .ok (.iload_n 3, 1) ∧ decode code 311 = .ok (.iconst 1, 1) ∧ decode code 312 = .ok (.iadd, 1) ∧ decode code 313 = .ok (.iaload, 1) ∧ decode code 314 = .ok (.invokevirtual 37, 3) ∧ decode code 317 = .ok (.pop, 1) ∧ decode code 318 = .ok (.goto (859), 3) ∧ decode code 321 = .ok (.aload_n 1, 1) := by decide +kernel
set_option maxRecDepth 20000 in
theorem eg_L_112 : decode code 322 = .ok (.aload_n 0, 1) ∧ decode code 323 = .ok (.iload_n 3, 1) ∧ decode code 324 = .ok (.iconst 1, 1) ∧ decode code 325 = .ok (.iadd, 1) ∧ decode code 326 = .ok (.iaload, 1) ∧ decode code 327 = .ok (.aload_n 0, 1) ∧ decode code 328 = .ok (.iload_n 3, 1) ∧ decode code 329 = .ok (.iconst 2, 1) := by decide +kernel
set_option maxRecDepth 20000 in
theorem eg_L_120 : decode code 330 = .ok (.iadd, 1) ∧ decode code 331 = .ok (.iaload, 1) ∧ decode code 332 = .ok (.invokevirtual 38, 3) ∧ decode code 335 = .ok (.pop, 1) ∧ decode code 336 = .ok (.aload_n 2, 1) ∧ decode code 337 = .ok (.aload_n 0, 1) ∧ decode code 338 = .ok (.iload_n 3, 1) ∧ decode code 339 = .ok (.iconst 1, 1) := by decide +kernel
set_option maxRecDepth 20000 in
theorem eg_L_128 : decode code 340 = .ok (.iadd, 1) ∧ decode code 341 = .ok (.iaload, 1) ∧ decode code 342 = .ok (.aload_n 0, 1) ∧ decode code 343 = .ok (.iload_n 3, 1) ∧ decode code 344 = .ok (.iconst 2, 1) ∧ decode code 345 = .ok (.iadd, 1) ∧ decode code 346 = .ok (.iaload, 1) ∧ decode code 347 = .ok (.invokevirtual 42, 3) := by decide +kernel
set_option maxRecDepth 20000 in
theorem eg_L_136 : decode code 350 = .ok (.pop, 1) ∧ decode code 351 = .ok (.goto (826), 3) ∧ decode code 354 = .ok (.aload_n 1, 1) ∧ decode code 355 = .ok (.aload_n 0, 1) ∧ decode code 356 = .ok (.iload_n 3, 1) ∧ decode code 357 = .ok (.iconst 1, 1) ∧ decode code 358 = .ok (.iadd, 1) ∧ decode code 359 = .ok (.iaload, 1) := by decide +kernel
set_option maxRecDepth 20000 in
theorem eg_L_144 : decode code 360 = .ok (.aload_n 0, 1) ∧ decode code 361 = .ok (.iload_n 3, 1) ∧ decode code 362 = .ok (.iconst 2, 1) ∧ decode code 363 = .ok (.iadd, 1) ∧ decode code 364 = .ok (.iaload, 1) ∧ decode code 365 = .ok (.invokevirtual 43, 3) ∧ decode code 368 = .ok (.pop, 1) ∧ decode code 369 = .ok (.aload_n 2, 1) := by decide +kernel
set_option maxRecDepth 20000 in
theorem eg_L_152 : decode code 370 = .ok (.aload_n 0, 1) ∧ decode code 371 = .ok (.iload_n 3, 1) ∧ decode code 372 = .ok (.iconst 1, 1) ∧ decode code 373 = .ok (.iadd, 1) ∧ decode code 374 = .ok (.iaload, 1) ∧ decode code 375 = .ok (.aload_n 0, 1) ∧ decode code 376 = .ok (.iload_n 3, 1) ∧ decode code 377 = .ok (.iconst 2, 1) := by decide +kernel
set_option maxRecDepth 20000 in
theorem eg_L_160 : decode code 378 = .ok (.iadd, 1) ∧ decode code 379 = .ok (.iaload, 1) ∧ decode code 380 = .ok (.invokevirtual 46, 3) ∧ decode code 383 = .ok (.pop, 1) ∧ decode code 384 = .ok (.goto (793), 3) ∧ decode code 387 = .ok (.aload_n 1, 1) ∧ decode code 388 = .ok (.aload_n 0, 1) ∧ decode code 389 = .ok (.iload_n 3, 1) := by decide +kernel
set_option maxRecDepth 20000 in
theorem eg_L_168 : decode code 390 = .ok (.iconst 1, 1) ∧ decode code 391 = .ok (.iadd, 1) ∧ decode code 392 = .ok (.iaload, 1) ∧ decode code 393 = .ok (.invokevirtual 47, 3) ∧ decode code 396 = .ok (.pop, 1) ∧ decode code 397 = .ok (.aload_n 2, 1) ∧ decode code 398 = .ok (.aload_n 0, 1) ∧ decode code 399 = .ok (.iload_n 3, 1) := by decide +kernel
set_option maxRecDepth 20000 in
theorem eg_L_176 : decode code 400 = .ok (.iconst 1, 1) ∧ decode code 401 = .ok (.iadd, 1) ∧ decode code 402 = .ok (.iaload, 1) ∧ decode code 403 = .ok (.invokevirtual 50, 3) ∧ decode code 406 = .ok (.pop, 1) ∧ decode code 407 = .ok (.goto (770), 3) ∧ decode code 410 = .ok (.aload_n 1, 1) ∧ decode code 411 = .ok (.invokevirtual 51, 3) := by decide +kernel
set_option maxRecDepth 20000 in
theorem eg_L_184 : decode code 414 = .ok (.pop, 1) ∧ decode code 415 = .ok (.aload_n 2, 1) ∧ decode code 416 = .ok (.invokevirtual 54, 3) ∧ decode code 419 = .ok (.pop, 1) ∧ decode code 420 = .ok (.goto (757), 3) ∧ decode code 423 = .ok (.aload_n 1, 1) ∧ decode code 424 = .ok (.invokevirtual 55, 3) ∧ decode code 427 = .ok (.pop, 1) := by decide +kernel
set_option maxRecDepth 20000 in
theorem eg_L_192 : decode code 428 = .ok (.aload_n 2, 1) ∧ decode code 429 = .ok (.invokevirtual 58, 3) ∧ decode code 432 = .ok (.pop, 1) ∧ decode code 433 = .ok (.goto (744), 3) ∧ decode code 436 = .ok (.aload_n 1, 1) ∧ decode code 437 = .ok (.aload_n 0, 1) ∧ decode code 438 = .ok (.iload_n 3, 1) ∧ decode code 439 = .ok (.iconst 1, 1) := by decide +kernel
set_option maxRecDepth 20000 in
theorem eg_L_200 : decode code 440 = .ok (.iadd, 1) ∧ decode code 441 = .ok (.iaload, 1) ∧ decode code 442 = .ok (.invokevirtual 59, 3) ∧ decode code 445 = .ok (.pop, 1) ∧ decode code 446 = .ok (.aload_n 2, 1) ∧ decode code 447 = .ok (.aload_n 0, 1) ∧ decode code 448 = .ok (.iload_n 3, 1) ∧ decode code 449 = .ok (.iconst 1, 1) := by decide +kernel
set_option maxRecDepth 20000 in
theorem eg_L_208 : decode code 450 = .ok (.iadd, 1) ∧ decode code 451 = .ok (.iaload, 1) ∧ decode code 452 = .ok (.invokevirtual 62, 3) ∧ decode code 455 = .ok (.pop, 1) ∧ decode code 456 = .ok (.goto (721), 3) ∧ decode code 459 = .ok (.aload_n 1, 1) ∧ decode code 460 = .ok (.aload_n 0, 1) ∧ decode code 461 = .ok (.iload_n 3, 1) := by decide +kernel
set_option maxRecDepth 20000 in
theorem eg_L_216 : decode code 462 = .ok (.iconst 1, 1) ∧ decode code 463 = .ok (.iadd, 1) ∧ decode code 464 = .ok (.iaload, 1) ∧ decode code 465 = .ok (.invokevirtual 63, 3) ∧ decode code 468 = .ok (.pop2, 1) ∧ decode code 469 = .ok (.aload_n 2, 1) ∧ decode code 470 = .ok (.aload_n 0, 1) ∧ decode code 471 = .ok (.iload_n 3, 1) := by decide +kernel
set_option maxRecDepth 20000 in
theorem eg_L_224 : decode code 472 = .ok (.iconst 1, 1) ∧ decode code 473 = .ok (.iadd, 1) ∧ decode code 474 = .ok (.iaload, 1) ∧ decode code 475 = .ok (.invokevirtual 67, 3) ∧ decode code 478 = .ok (.pop2, 1) ∧ decode code 479 = .ok (.goto (698), 3) ∧ decode code 482 = .ok (.aload_n 1, 1) ∧ decode code 483 = .ok (.invokevirtual 68, 3) := by decide +kernel
set_option maxRecDepth 20000 in
theorem eg_L_232 : decode code 486 = .ok (.pop, 1) ∧ decode code 487 = .ok (.aload_n 2, 1) ∧ decode code 488 = .ok (.invokevirtual 71, 3) ∧ decode code 491 = .ok (.pop, 1) ∧ decode code 492 = .ok (.goto (685), 3) ∧ decode code 495 = .ok (.aload_n 1, 1) ∧ decode code 496 = .ok (.aload_n 0, 1) ∧ decode code 497 = .ok (.iload_n 3, 1) := by decide +kernel
set_option maxRecDepth 20000 in
theorem eg_L_240 : decode code 498 = .ok (.iconst 1, 1) ∧ decode code 499 = .ok (.iadd, 1) ∧ decode code 500 = .ok (.iaload, 1) ∧ decode code 501 = .ok (.aload_n 0, 1) ∧ decode code 502 = .ok (.iload_n 3, 1) ∧ decode code 503 = .ok (.iconst 2, 1) ∧ decode code 504 = .ok (.iadd, 1) ∧ decode code 505 = .ok (.iaload, 1) := by decide +kernel
set_option maxRecDepth 20000 in
theorem eg_L_248 : decode code 506 = .ok (.aload_n 0, 1) ∧ decode code 507 = .ok (.iload_n 3, 1) ∧ decode code 508 = .ok (.iconst 3, 1) ∧ decode code 509 = .ok (.iadd, 1) ∧ decode code 510 = .ok (.iaload, 1) ∧ decode code 511 = .ok (.aload_n 0, 1) ∧ decode code 512 = .ok (.iload_n 3, 1) ∧ decode code 513 = .ok (.iconst 4, 1) := by decide +kernel
set_option maxRecDepth 20000 in
theorem eg_L_256 : decode code 514 = .ok (.iadd, 1) ∧ decode code 515 = .ok (.iaload, 1) ∧ decode code 516 = .ok (.invokevirtual 72, 3) ∧ decode code 519 = .ok (.pop, 1) ∧ decode code 520 = .ok (.aload_n 2, 1) ∧ decode code 521 = .ok (.aload_n 0, 1) ∧ decode code 522 = .ok (.iload_n 3, 1) ∧ decode code 523 = .ok (.iconst 1, 1) := by decide +kernel
set_option maxRecDepth 20000 in
theorem eg_L_264 : decode code 524 = .ok (.iadd, 1) ∧ decode code 525 = .ok (.iaload, 1) ∧ decode code 526 = .ok (.aload_n 0, 1) ∧ decode code 527 = .ok (.iload_n 3, 1) ∧ decode code 528 = .ok (.iconst 2, 1) ∧ decode code 529 = .ok (.iadd, 1) ∧ decode code 530 = .ok (.iaload, 1) ∧ decode code 531 = .ok (.aload_n 0, 1) := by decide +kernel
set_option maxRecDepth 20000 in
theorem eg_L_272 : decode code 532 = .ok (.iload_n 3, 1) ∧ decode code 533 = .ok (.iconst 3, 1) ∧ decode code 534 = .ok (.iadd, 1) ∧ decode code 535 = .ok (.iaload, 1) ∧ decode code 536 = .ok (.aload_n 0, 1) ∧ decode code 537 = .ok (.iload_n 3, 1) ∧ decode code 538 = .ok (.iconst 4, 1) ∧ decode code 539 = .ok (.iadd, 1) := by decide +kernel
set_option maxRecDepth 20000 in
theorem eg_L_280 : decode code 540 = .ok (.iaload, 1) ∧ decode code 541 = .ok (.invokevirtual 76, 3) ∧ decode code 544 = .ok (.pop, 1) ∧ decode code 545 = .ok (.goto (632), 3) ∧ decode code 548 = .ok (.aload_n 1, 1) ∧ decode code 549 = .ok (.aload_n 0, 1) ∧ decode code 550 = .ok (.iload_n 3, 1) ∧ decode code 551 = .ok (.iconst 1, 1) := by decide +kernel
set_option maxRecDepth 20000 in
theorem eg_L_288 : decode code 552 = .ok (.iadd, 1) ∧ decode code 553 = .ok (.iaload, 1) ∧ decode code 554 = .ok (.aload_n 0, 1) ∧ decode code 555 = .ok (.iload_n 3, 1) ∧ decode code 556 = .ok (.iconst 2, 1) ∧ decode code 557 = .ok (.iadd, 1) ∧ decode code 558 = .ok (.iaload, 1) ∧ decode code 559 = .ok (.aload_n 0, 1) := by decide +kernel
set_option maxRecDepth 20000 in
theorem eg_L_296 : decode code 560 = .ok (.iload_n 3, 1) ∧ decode code 561 = .ok (.iconst 3, 1) ∧ decode code 562 = .ok (.iadd, 1) ∧ decode code 563 = .ok (.iaload, 1) ∧ decode code 564 = .ok (.invokevirtual 77, 3) ∧ decode code 567 = .ok (.pop, 1) ∧ decode code 568 = .ok (.aload_n 2, 1) ∧ decode code 569 = .ok (.aload_n 0, 1) := by decide +kernel
set_option maxRecDepth 20000 in
theorem eg_L_304 : decode code 570 = .ok (.iload_n 3, 1) ∧ decode code 571 = .ok (.iconst 1, 1) ∧ decode code 572 = .ok (.iadd, 1) ∧ decode code 573 = .ok (.iaload, 1) ∧ decode code 574 = .ok (.aload_n 0, 1) ∧ decode code 575 = .ok (.iload_n 3, 1) ∧ decode code 576 = .ok (.iconst 2, 1) ∧ decode code 577 = .ok (.iadd, 1) := by decide +kernel
set_option maxRecDepth 20000 in
theorem eg_L_312 : decode code 578 = .ok (.iaload, 1) ∧ decode code 579 = .ok (.aload_n 0, 1) ∧ decode code 580 = .ok (.iload_n 3, 1) ∧ decode code 581 = .ok (.iconst 3, 1) ∧ decode code 582 = .ok (.iadd, 1) ∧ decode code 583 = .ok (.iaload, 1) ∧ decode code 584 = .ok (.invokevirtual 81, 3) ∧ decode code 587 = .ok (.pop, 1) := by decide +kernel
set_option maxRecDepth 20000 in
theorem eg_L_320 : decode code 588 = .ok (.goto (589), 3) ∧ decode code 591 = .ok (.aload_n 1, 1) ∧ decode code 592 = .ok (.aload_n 0, 1) ∧ decode code 593 = .ok (.iload_n 3, 1) ∧ decode code 594 = .ok (.iconst 1, 1) ∧ decode code 595 = .ok (.iadd, 1) ∧ decode code 596 = .ok (.iaload, 1) ∧ decode code 597 = .ok (.invokevirtual 82, 3) := by decide +kernel
set_option maxRecDepth 20000 in
theorem eg_L_328 : decode code 600 = .ok (.pop, 1) ∧ decode code 601 = .ok (.aload_n 2, 1) ∧ decode code 602 = .ok (.aload_n 0, 1) ∧ decode code 603 = .ok (.iload_n 3, 1) ∧ decode code 604 = .ok (.iconst 1, 1) ∧ decode code 605 = .ok (.iadd, 1) ∧ decode code 606 = .ok (.iaload, 1) ∧ decode code 607 = .ok (.invokevirtual 85, 3) := by decide +kernel
set_option maxRecDepth 20000 in
theorem eg_L_336 : decode code 610 = .ok (.pop, 1) ∧ decode code 611 = .ok (.goto (566), 3) ∧ decode code 614 = .ok (.aload_n 1, 1) ∧ decode code 615 = .ok (.aload_n 0, 1) ∧ decode code 616 = .ok (.iload_n 3, 1) ∧ decode code 617 = .ok (.iconst 1, 1) ∧ decode code 618 = .ok (.iadd, 1) ∧ decode code 619 = .ok (.iaload, 1) := by decide +kernel
set_option maxRecDepth 20000 in
theorem eg_L_344 : decode code 620 = .ok (.invokevirtual 86, 3) ∧ decode code 623 = .ok (.pop, 1) ∧ decode code 624 = .ok (.aload_n 2, 1) ∧ decode code 625 = .ok (.aload_n 0, 1) ∧ decode code 626 = .ok (.iload_n 3, 1) ∧ decode code 627 = .ok (.iconst 1, 1) ∧ decode code 628 = .ok (.iadd, 1) ∧ decode code 629 = .ok (.iaload, 1) := by decide +kernel
set_option maxRecDepth 20000 in
theorem eg_L_352 : decode code 630 = .ok (.invokevirtual 89, 3) ∧ decode code 633 = .ok (.pop, 1) ∧ decode code 634 = .ok (.goto (543), 3) ∧ decode code 637 = .ok (.aload_n 1, 1) ∧ decode code 638 = .ok (.aload_n 0, 1) ∧ decode code 639 = .ok (.iload_n 3, 1) ∧ decode code 640 = .ok (.iconst 1, 1) ∧ decode code 641 = .ok (.iadd, 1) := by decide +kernel
set_option maxRecDepth 20000 in
theorem eg_L_360 : decode code 642 = .ok (.iaload, 1) ∧ decode code 643 = .ok (.invokevirtual 90, 3) ∧ decode code 646 = .ok (.pop, 1) ∧ decode code 647 = .ok (.aload_n 2, 1) ∧ decode code 648 = .ok (.aload_n 0, 1) ∧ decode code 649 = .ok (.iload_n 3, 1) ∧ decode code 650 = .ok (.iconst 1, 1) ∧ decode code 651 = .ok (.iadd, 1) := by decide +kernel
set_option maxRecDepth 20000 in
theorem eg_L_368 : decode code 652 = .ok (.iaload, 1) ∧ decode code 653 = .ok (.invokevirtual 93, 3) ∧ decode code 656 = .ok (.pop, 1) ∧ decode code 657 = .ok (.goto (520), 3) ∧ decode code 660 = .ok (.aload_n 1, 1) ∧ decode code 661 = .ok (.aload_n 0, 1) ∧ decode code 662 = .ok (.iload_n 3, 1) ∧ decode code 663 = .ok (.iconst 1, 1) := by decide +kernel
set_option maxRecDepth 20000 in
theorem eg_L_376 : decode code 664 = .ok (.iadd, 1) ∧ decode code 665 = .ok (.iaload, 1) ∧ decode code 666 = .ok (.invokevirtual 94, 3) ∧ decode code 669 = .ok (.pop, 1) ∧ decode code 670 = .ok (.aload_n 2, 1) ∧ decode code 671 = .ok (.aload_n 0, 1) ∧ decode code 672 = .ok (.iload_n 3, 1) ∧ decode code 673 = .ok (.iconst 1, 1) := by decide +kernel
set_option maxRecDepth 20000 in
theorem eg_L_384 : decode code 674 = .ok (.iadd, 1) ∧ decode code 675 = .ok (.iaload, 1) ∧ decode code 676 = .ok (.invokevirtual 97, 3) ∧ decode code 679 = .ok (.pop, 1) ∧ decode code 680 = .ok (.goto (497), 3) ∧ decode code 683 = .ok (.aload_n 1, 1) ∧ decode code 684 = .ok (.invokevirtual 98, 3) ∧ decode code 687 = .ok (.pop, 1) := by decide +kernel
set_option maxRecDepth 20000 in
theorem eg_L_392 : decode code 688 = .ok (.aload_n 2, 1) ∧ decode code 689 = .ok (.invokevirtual 101, 3) ∧ decode code 692 = .ok (.pop, 1) ∧ decode code 693 = .ok (.goto (484), 3) ∧ decode code 696 = .ok (.aload_n 1, 1) ∧ decode code 697 = .ok (.aload_n 0, 1) ∧ decode code 698 = .ok (.iload_n 3, 1) ∧ decode code 699 = .ok (.iconst 1, 1) := by decide +kernel
set_option maxRecDepth 20000 in
theorem eg_L_400 : decode code 700 = .ok (.iadd, 1) ∧ decode code 701 = .ok (.iaload, 1) ∧ decode code 702 = .ok (.invokevirtual 102, 3) ∧ decode code 705 = .ok (.pop, 1) ∧ decode code 706 = .ok (.aload_n 2, 1) ∧ decode code 707 = .ok (.aload_n 0, 1) ∧ decode code 708 = .ok (.iload_n 3, 1) ∧ decode code 709 = .ok (.iconst 1, 1) := by decide +kernel
set_option maxRecDepth 20000 in
theorem eg_L_408 : decode code 710 = .ok (.iadd, 1) ∧ decode code 711 = .ok (.iaload, 1) ∧ decode code 712 = .ok (.invokevirtual 105, 3) ∧ decode code 715 = .ok (.pop, 1) ∧ decode code 716 = .ok (.goto (461), 3) ∧ decode code 719 = .ok (.aload_n 1, 1) ∧ decode code 720 = .ok (.aload_n 0, 1) ∧ decode code 721 = .ok (.iload_n 3, 1) := by decide +kernel
set_option maxRecDepth 20000 in
theorem eg_L_416 : decode code 722 = .ok (.iconst 1, 1) ∧ decode code 723 = .ok (.iadd, 1) ∧ decode code 724 = .ok (.iaload, 1) ∧ decode code 725 = .ok (.aload_n 0, 1) ∧ decode code 726 = .ok (.iload_n 3, 1) ∧ decode code 727 = .ok (.iconst 2, 1) ∧ decode code 728 = .ok (.iadd, 1) ∧ decode code 729 = .ok (.iaload, 1) := by decide +kernel
set_option maxRecDepth 20000 in
theorem eg_L_424 : decode code 730 = .ok (.invokevirtual 106, 3) ∧ decode code 733 = .ok (.pop2, 1) ∧ decode code 734 = .ok (.aload_n 2, 1) ∧ decode code 735 = .ok (.aload_n 0, 1) ∧ decode code 736 = .ok (.iload_n 3, 1) ∧ decode code 737 = .ok (.iconst 1, 1) ∧ decode code 738 = .ok (.iadd, 1) ∧ decode code 739 = .ok (.iaload, 1) := by decide +kernel
set_option maxRecDepth 20000 in
theorem eg_L_432 : decode code 740 = .ok (.aload_n 0, 1) ∧ decode code 741 = .ok (.iload_n 3, 1) ∧ decode code 742 = .ok (.iconst 2, 1) ∧ decode code 743 = .ok (.iadd, 1) ∧ decode code 744 = .ok (.iaload, 1) ∧ decode code 745 = .ok (.invokevirtual 110, 3) ∧ decode code 748 = .ok (.pop2, 1) ∧ decode code 749 = .ok (.goto (428), 3) := by decide +kernel
set_option maxRecDepth 20000 in
theorem eg_L_440 : decode code 752 = .ok (.aload_n 1, 1) ∧ decode code 753 = .ok (.aload_n 0, 1) ∧ decode code 754 = .ok (.iload_n 3, 1) ∧ decode code 755 = .ok (.iconst 1, 1) ∧ decode code 756 = .ok (.iadd, 1) ∧ decode code 757 = .ok (.iaload, 1) ∧ decode code 758 = .ok (.invokevirtual 111, 3) ∧ decode code 761 = .ok (.pop, 1) := by decide +kernel
set_option maxRecDepth 20000 in
theorem eg_L_448 : decode code 762 = .ok (.aload_n 2, 1) ∧ decode code 763 = .ok (.aload_n 0, 1) ∧ decode code 764 = .ok (.iload_n 3, 1) ∧ decode code 765 = .ok (.iconst 1, 1) ∧ decode code 766 = .ok (.iadd, 1) ∧ decode code 767 = .ok (.iaload, 1) ∧ decode code 768 = .ok (.invokevirtual 114, 3) ∧ decode code 771 = .ok (.pop, 1) := by decide +kernel
set_option maxRecDepth 20000 in
theorem eg_L_456 : decode code 772 = .ok (.goto (405), 3) ∧ decode code 775 = .ok (.aload_n 1, 1) ∧ decode code 776 = .ok (.aload_n 0, 1) ∧ decode code 777 = .ok (.iload_n 3, 1) ∧ decode code 778 = .ok (.iconst 1, 1) ∧ decode code 779 = .ok (.iadd, 1) ∧ decode code 780 = .ok (.iaload, 1) ∧ decode code 781 = .ok (.invokevirtual 115, 3) := by decide +kernel
set_option maxRecDepth 20000 in
theorem eg_L_464 : decode code 784 = .ok (.pop, 1) ∧ decode code 785 = .ok (.aload_n 2, 1) ∧ decode code 786 = .ok (.aload_n 0, 1) ∧ decode code 787 = .ok (.iload_n 3, 1) ∧ decode code 788 = .ok (.iconst 1, 1) ∧ decode code 789 = .ok (.iadd, 1) ∧ decode code 790 = .ok (.iaload, 1) ∧ decode code 791 = .ok (.invokevirtual 118, 3) := by decide +kernel
set_option maxRecDepth 20000 in
theorem eg_L_472 : decode code 794 = .ok (.pop, 1) ∧ decode code 795 = .ok (.goto (382), 3) ∧ decode code 798 = .ok (.aload_n 1, 1) ∧ decode code 799 = .ok (.invokevirtual 119, 3) ∧ decode code 802 = .ok (.pop, 1) ∧ decode code 803 = .ok (.aload_n 2, 1) ∧ decode code 804 = .ok (.invokevirtual 122, 3) ∧ decode code 807 = .ok (.pop, 1) := by decide +kernel
set_option maxRecDepth 20000 in
theorem eg_L_480 : decode code 808 = .ok (.goto (369), 3) ∧ decode code 811 = .ok (.aload_n 1, 1) ∧ decode code 812 = .ok (.aload_n 0, 1) ∧ decode code 813 = .ok (.iload_n 3, 1) ∧ decode code 814 = .ok (.iconst 1, 1) ∧ decode code 815 = .ok (.iadd, 1) ∧ decode code 816 = .ok (.iaload, 1) ∧ decode code 817 = .ok (.invokevirtual 123, 3) := by decide +kernel
set_option maxRecDepth 20000 in
theorem eg_L_488 : decode code 820 = .ok (.pop, 1) ∧ decode code 821 = .ok (.aload_n 2, 1) ∧ decode code 822 = .ok (.aload_n 0, 1) ∧ decode code 823 = .ok (.iload_n 3, 1) ∧ decode code 824 = .ok (.iconst 1, 1) ∧ decode code 825 = .ok (.iadd, 1) ∧ decode code 826 = .ok (.iaload, 1) ∧ decode code 827 = .ok (.invokevirtual 126, 3) := by decide +kernel
set_option maxRecDepth 20000 in
theorem eg_L_496 : decode code 830 = .ok (.pop, 1) ∧ decode code 831 = .ok (.goto (346), 3) ∧ decode code 834 = .ok (.aload_n 1, 1) ∧ decode code 835 = .ok (.aload_n 0, 1) ∧ decode code 836 = .ok (.iload_n 3, 1) ∧ decode code 837 = .ok (.iconst 1, 1) ∧ decode code 838 = .ok (.iadd, 1) ∧ decode code 839 = .ok (.iaload, 1) := by decide +kernel
set_option maxRecDepth 20000 in
theorem eg_L_504 : decode code 840 = .ok (.invokevirtual 127, 3) ∧ decode code 843 = .ok (.pop, 1) ∧ decode code 844 = .ok (.aload_n 2, 1) ∧ decode code 845 = .ok (.aload_n 0, 1) ∧ decode code 846 = .ok (.iload_n 3, 1) ∧ decode code 847 = .ok (.iconst 1, 1) ∧ decode code 848 = .ok (.iadd, 1) ∧ decode code 849 = .ok (.iaload, 1) := by decide +kernel
set_option maxRecDepth 20000 in
theorem eg_L_512 : decode code 850 = .ok (.invokevirtual 130, 3) ∧ decode code 853 = .ok (.pop, 1) ∧ decode code 854 = .ok (.goto (323), 3) ∧ decode code 857 = .ok (.aload_n 1, 1) ∧ decode code 858 = .ok (.aload_n 0, 1) ∧ decode code 859 = .ok (.iload_n 3, 1) ∧ decode code 860 = .ok (.iconst 1, 1) ∧ decode code 861 = .ok (.iadd, 1) := by decide +kernel
set_option maxRecDepth 20000 in
theorem eg_L_520 : decode code 862 = .ok (.iaload, 1) ∧ decode code 863 = .ok (.aload_n 0, 1) ∧ decode code 864 = .ok (.iload_n 3, 1) ∧ decode code 865 = .ok (.iconst 2, 1) ∧ decode code 866 = .ok (.iadd, 1) ∧ decode code 867 = .ok (.iaload, 1) ∧ decode code 868 = .ok (.invokevirtual 131, 3) ∧ decode code 871 = .ok (.pop, 1) := by decide +kernel
set_option maxRecDepth 20000 in
theorem eg_L_528 : decode code 872 = .ok (.aload_n 2, 1) ∧ decode code 873 = .ok (.aload_n 0, 1) ∧ decode code 874 = .ok (.iload_n 3, 1) ∧ decode code 875 = .ok (.iconst 1, 1) ∧ decode code 876 = .ok (.iadd, 1) ∧ decode code 877 = .ok (.iaload, 1) ∧ decode code 878 = .ok (.aload_n 0, 1) ∧ decode code 879 = .ok (.iload_n 3, 1) := by decide +kernel
set_option maxRecDepth 20000 in
theorem eg_L_536 : decode code 880 = .ok (.iconst 2, 1) ∧ decode code 881 = .ok (.iadd, 1) ∧ decode code 882 = .ok (.iaload, 1) ∧ decode code 883 = .ok (.invokevirtual 134, 3) ∧ decode code 886 = .ok (.pop, 1) ∧ decode code 887 = .ok (.goto (290), 3) ∧ decode code 890 = .ok (.aload_n 1, 1) ∧ decode code 891 = .ok (.aload_n 0, 1) := by decide +kernel
set_option maxRecDepth 20000 in
theorem eg_L_544 : decode code 892 = .ok (.iload_n 3, 1) ∧ decode code 893 = .ok (.iconst 1, 1) ∧ decode code 894 = .ok (.iadd, 1) ∧ decode code 895 = .ok (.iaload, 1) ∧ decode code 896 = .ok (.invokevirtual 135, 3) ∧ decode code 899 = .ok (.pop, 1) ∧ decode code 900 = .ok (.aload_n 2, 1) ∧ decode code 901 = .ok (.aload_n 0, 1) := by decide +kernel
set_option maxRecDepth 20000 in
theorem eg_L_552 : decode code 902 = .ok (.iload_n 3, 1) ∧ decode code 903 = .ok (.iconst 1, 1) ∧ decode code 904 = .ok (.iadd, 1) ∧ decode code 905 = .ok (.iaload, 1) ∧ decode code 906 = .ok (.invokevirtual 138, 3) ∧ decode code 909 = .ok (.pop, 1) ∧ decode code 910 = .ok (.goto (267), 3) ∧ decode code 913 = .ok (.aload_n 1, 1) := by decide +kernel
set_option maxRecDepth 20000 in
theorem eg_L_560 : decode code 914 = .ok (.aload_n 0, 1) ∧ decode code 915 = .ok (.iload_n 3, 1) ∧ decode code 916 = .ok (.iconst 1, 1) ∧ decode code 917 = .ok (.iadd, 1) ∧ decode code 918 = .ok (.iaload, 1) ∧ decode code 919 = .ok (.aload_n 0, 1) ∧ decode code 920 = .ok (.iload_n 3, 1) ∧ decode code 921 = .ok (.iconst 2, 1) := by decide +kernel
set_option maxRecDepth 20000 in
theorem eg_L_568 : decode code 922 = .ok (.iadd, 1) ∧ decode code 923 = .ok (.iaload, 1) ∧ decode code 924 = .ok (.aload_n 0, 1) ∧ decode code 925 = .ok (.iload_n 3, 1) ∧ decode code 926 = .ok (.iconst 3, 1) ∧ decode code 927 = .ok (.iadd, 1) ∧ decode code 928 = .ok (.iaload, 1) ∧ decode code 929 = .ok (.invokevirtual 139, 3) := by decide +kernel
set_option maxRecDepth 20000 in
theorem eg_L_576 : decode code 932 = .ok (.pop2, 1) ∧ decode code 933 = .ok (.aload_n 2, 1) ∧ decode code 934 = .ok (.aload_n 0, 1) ∧ decode code 935 = .ok (.iload_n 3, 1) ∧ decode code 936 = .ok (.iconst 1, 1) ∧ decode code 937 = .ok (.iadd, 1) ∧ decode code 938 = .ok (.iaload, 1) ∧ decode code 939 = .ok (.aload_n 0, 1) := by decide +kernel
set_option maxRecDepth 20000 in
theorem eg_L_584 : decode code 940 = .ok (.iload_n 3, 1) ∧ decode code 941 = .ok (.iconst 2, 1) ∧ decode code 942 = .ok (.iadd, 1) ∧ decode code 943 = .ok (.iaload, 1) ∧ decode code 944 = .ok (.aload_n 0, 1) ∧ decode code 945 = .ok (.iload_n 3, 1) ∧ decode code 946 = .ok (.iconst 3, 1) ∧ decode code 947 = .ok (.iadd, 1) := by decide +kernel
set_option maxRecDepth 20000 in
theorem eg_L_592 : decode code 948 = .ok (.iaload, 1) ∧ decode code 949 = .ok (.invokevirtual 143, 3) ∧ decode code 952 = .ok (.pop2, 1) ∧ decode code 953 = .ok (.goto (224), 3) ∧ decode code 956 = .ok (.aload_n 1, 1) ∧ decode code 957 = .ok (.aload_n 0, 1) ∧ decode code 958 = .ok (.iload_n 3, 1) ∧ decode code 959 = .ok (.iconst 1, 1) := by decide +kernel
set_option maxRecDepth 20000 in
theorem eg_L_600 : decode code 960 = .ok (.iadd, 1) ∧ decode code 961 = .ok (.iaload, 1) ∧ decode code 962 = .ok (.invokevirtual 144, 3) ∧ decode code 965 = .ok (.pop, 1) ∧ decode code 966 = .ok (.aload_n 2, 1) ∧ decode code 967 = .ok (.aload_n 0, 1) ∧ decode code 968 = .ok (.iload_n 3, 1) ∧ decode code 969 = .ok (.iconst 1, 1) := by decide +kernel
set_option maxRecDepth 20000 in
theorem eg_L_608 : decode code 970 = .ok (.iadd, 1) ∧ decode code 971 = .ok (.iaload, 1) ∧ decode code 972 = .ok (.invokevirtual 147, 3) ∧ decode code 975 = .ok (.pop, 1) ∧ decode code 976 = .ok (.goto (201), 3) ∧ decode code 979 = .ok (.aload_n 1, 1) ∧ decode code 980 = .ok (.aload_n 0, 1) ∧ decode code 981 = .ok (.iload_n 3, 1) := by decide +kernel
set_option maxRecDepth 20000 in
theorem eg_L_616 : decode code 982 = .ok (.iconst 1, 1) ∧ decode code 983 = .ok (.iadd, 1) ∧ decode code 984 = .ok (.iaload, 1) ∧ decode code 985 = .ok (.invokevirtual 148, 3) ∧ decode code 988 = .ok (.pop, 1) ∧ decode code 989 = .ok (.aload_n 2, 1) ∧ decode code 990 = .ok (.aload_n 0, 1) ∧ decode code 991 = .ok (.iload_n 3, 1) := by decide +kernel
set_option maxRecDepth 20000 in
theorem eg_L_624 : decode code 992 = .ok (.iconst 1, 1) ∧ decode code 993 = .ok (.iadd, 1) ∧ decode code 994 = .ok (.iaload, 1) ∧ decode code 995 = .ok (.invokevirtual 151, 3) ∧ decode code 998 = .ok (.pop, 1) ∧ decode code 999 = .ok (.goto (178), 3) ∧ decode code 1002 = .ok (.aload_n 1, 1) ∧ decode code 1003 = .ok (.aload_n 0, 1) := by decide +kernel
set_option maxRecDepth 20000 in
theorem eg_L_632 : decode code 1004 = .ok (.iload_n 3, 1) ∧ decode code 1005 = .ok (.iconst 1, 1) ∧ decode code 1006 = .ok (.iadd, 1) ∧ decode code 1007 = .ok (.iaload, 1) ∧ decode code 1008 = .ok (.aload_n 0, 1) ∧ decode code 1009 = .ok (.iload_n 3, 1) ∧ decode code 1010 = .ok (.iconst 2, 1) ∧ decode code 1011 = .ok (.iadd, 1) := by decide +kernel
set_option maxRecDepth 20000 in
theorem eg_L_640 : decode code 1012 = .ok (.iaload, 1) ∧ decode code 1013 = .ok (.aload_n 0, 1) ∧ decode code 1014 = .ok (.iload_n 3, 1) ∧ decode code 1015 = .ok (.iconst 3, 1) ∧ decode code 1016 = .ok (.iadd, 1) ∧ decode code 1017 = .ok (.iaload, 1) ∧ decode code 1018 = .ok (.invokevirtual 152, 3) ∧ decode code 1021 = .ok (.pop, 1) := by decide +kernel
set_option maxRecDepth 20000 in
theorem eg_L_648 : decode code 1022 = .ok (.aload_n 2, 1) ∧ decode code 1023 = .ok (.aload_n 0, 1) ∧ decode code 1024 = .ok (.iload_n 3, 1) ∧ decode code 1025 = .ok (.iconst 1, 1) ∧ decode code 1026 = .ok (.iadd, 1) ∧ decode code 1027 = .ok (.iaload, 1) ∧ decode code 1028 = .ok (.aload_n 0, 1) ∧ decode code 1029 = .ok (.iload_n 3, 1) := by decide +kernel
set_option maxRecDepth 20000 in
theorem eg_L_656 : decode code 1030 = .ok (.iconst 2, 1) ∧ decode code 1031 = .ok (.iadd, 1) ∧ decode code 1032 = .ok (.iaload, 1) ∧ decode code 1033 = .ok (.aload_n 0, 1) ∧ decode code 1034 = .ok (.iload_n 3, 1) ∧ decode code 1035 = .ok (.iconst 3, 1) ∧ decode code 1036 = .ok (.iadd, 1) ∧ decode code 1037 = .ok (.iaload, 1) := by decide +kernel
set_option maxRecDepth 20000 in
theorem eg_L_664 : decode code 1038 = .ok (.invokevirtual 155, 3) ∧ decode code 1041 = .ok (.pop, 1) ∧ decode code 1042 = .ok (.goto (135), 3) ∧ decode code 1045 = .ok (.aload_n 1, 1) ∧ decode code 1046 = .ok (.aload_n 0, 1) ∧ decode code 1047 = .ok (.iload_n 3, 1) ∧ decode code 1048 = .ok (.iconst 1, 1) ∧ decode code 1049 = .ok (.iadd, 1) := by decide +kernel
set_option maxRecDepth 20000 in
theorem eg_L_672 : decode code 1050 = .ok (.iaload, 1) ∧ decode code 1051 = .ok (.aload_n 0, 1) ∧ decode code 1052 = .ok (.iload_n 3, 1) ∧ decode code 1053 = .ok (.iconst 2, 1) ∧ decode code 1054 = .ok (.iadd, 1) ∧ decode code 1055 = .ok (.iaload, 1) ∧ decode code 1056 = .ok (.aload_n 0, 1) ∧ decode code 1057 = .ok (.iload_n 3, 1) := by decide +kernel
set_option maxRecDepth 20000 in
theorem eg_L_680 : decode code 1058 = .ok (.iconst 3, 1) ∧ decode code 1059 = .ok (.iadd, 1) ∧ decode code 1060 = .ok (.iaload, 1) ∧ decode code 1061 = .ok (.invokevirtual 156, 3) ∧ decode code 1064 = .ok (.pop, 1) ∧ decode code 1065 = .ok (.aload_n 2, 1) ∧ decode code 1066 = .ok (.aload_n 0, 1) ∧ decode code 1067 = .ok (.iload_n 3, 1) := by decide +kernel
set_option maxRecDepth 20000 in
theorem eg_L_688 : decode code 1068 = .ok (.iconst 1, 1) ∧ decode code 1069 = .ok (.iadd, 1) ∧ decode code 1070 = .ok (.iaload, 1) ∧ decode code 1071 = .ok (.aload_n 0, 1) ∧ decode code 1072 = .ok (.iload_n 3, 1) ∧ decode code 1073 = .ok (.iconst 2, 1) ∧ decode code 1074 = .ok (.iadd, 1) ∧ decode code 1075 = .ok (.iaload, 1) := by decide +kernel
set_option maxRecDepth 20000 in
theorem eg_L_696 : decode code 1076 = .ok (.aload_n 0, 1) ∧ decode code 1077 = .ok (.iload_n 3, 1) ∧ decode code 1078 = .ok (.iconst 3, 1) ∧ decode code 1079 = .ok (.iadd, 1) ∧ decode code 1080 = .ok (.iaload, 1) ∧ decode code 1081 = .ok (.invokevirtual 159, 3) ∧ decode code 1084 = .ok (.pop, 1) ∧ decode code 1085 = .ok (.goto (92), 3) := by decide +kernel
set_option maxRecDepth 20000 in
theorem eg_L_704 : decode code 1088 = .ok (.aload_n 1, 1) ∧ decode code 1089 = .ok (.aload_n 0, 1) ∧ decode code 1090 = .ok (.iload_n 3, 1) ∧ decode code 1091 = .ok (.iconst 1, 1) ∧ decode code 1092 = .ok (.iadd, 1) ∧ decode code 1093 = .ok (.iaload, 1) ∧ decode code 1094 = .ok (.aload_n 0, 1) ∧ decode code 1095 = .ok (.iload_n 3, 1) := by decide +kernel
set_option maxRecDepth 20000 in
theorem eg_L_712 : decode code 1096 = .ok (.iconst 2, 1) ∧ decode code 1097 = .ok (.iadd, 1) ∧ decode code 1098 = .ok (.iaload, 1) ∧ decode code 1099 = .ok (.aload_n 0, 1) ∧ decode code 1100 = .ok (.iload_n 3, 1) ∧ decode code 1101 = .ok (.iconst 3, 1) ∧ decode code 1102 = .ok (.iadd, 1) ∧ decode code 1103 = .ok (.iaload, 1) := by decide +kernel
set_option maxRecDepth 20000 in
theorem eg_L_720 : decode code 1104 = .ok (.aload_n 0, 1) ∧ decode code 1105 = .ok (.iload_n 3, 1) ∧ decode code 1106 = .ok (.iconst 4, 1) ∧ decode code 1107 = .ok (.iadd, 1) ∧ decode code 1108 = .ok (.iaload, 1) ∧ decode code 1109 = .ok (.invokevirtual 160, 3) ∧ decode code 1112 = .ok (.pop, 1) ∧ decode code 1113 = .ok (.aload_n 2, 1) := by decide +kernel
set_option maxRecDepth 20000 in
theorem eg_L_728 : decode code 1114 = .ok (.aload_n 0, 1) ∧ decode code 1115 = .ok (.iload_n 3, 1) ∧ decode code 1116 = .ok (.iconst 1, 1) ∧ decode code 1117 = .ok (.iadd, 1) ∧ decode code 1118 = .ok (.iaload, 1) ∧ decode code 1119 = .ok (.aload_n 0, 1) ∧ decode code 1120 = .ok (.iload_n 3, 1) ∧ decode code 1121 = .ok (.iconst 2, 1) := by decide +kernel
set_option maxRecDepth 20000 in
theorem eg_L_736 : decode code 1122 = .ok (.iadd, 1) ∧ decode code 1123 = .ok (.iaload, 1) ∧ decode code 1124 = .ok (.aload_n 0, 1) ∧ decode code 1125 = .ok (.iload_n 3, 1) ∧ decode code 1126 = .ok (.iconst 3, 1) ∧ decode code 1127 = .ok (.iadd, 1) ∧ decode code 1128 = .ok (.iaload, 1) ∧ decode code 1129 = .ok (.aload_n 0, 1) := by decide +kernel
set_option maxRecDepth 20000 in
theorem eg_L_744 : decode code 1130 = .ok (.iload_n 3, 1) ∧ decode code 1131 = .ok (.iconst 4, 1) ∧ decode code 1132 = .ok (.iadd, 1) ∧ decode code 1133 = .ok (.iaload, 1) ∧ decode code 1134 = .ok (.invokevirtual 163, 3) ∧ decode code 1137 = .ok (.pop, 1) ∧ decode code 1138 = .ok (.goto (39), 3) ∧ decode code 1141 = .ok (.aload_n 1, 1) := by decide +kernel
set_option maxRecDepth 20000 in
theorem eg_L_752 : decode code 1142 = .ok (.invokevirtual 164, 3) ∧ decode code 1145 = .ok (.pop, 1) ∧ decode code 1146 = .ok (.aload_n 2, 1) ∧ decode code 1147 = .ok (.invokevirtual 167, 3) ∧ decode code 1150 = .ok (.pop, 1) ∧ decode code 1151 = .ok (.goto (26), 3) ∧ decode code 1154 = .ok (.aload_n 1, 1) ∧ decode code 1155 = .ok (.aload_n 0, 1) := by decide +kernel
set_option maxRecDepth 20000 in
theorem eg_L_760 : decode code 1156 = .ok (.iload_n 3, 1) ∧ decode code 1157 = .ok (.iconst 1, 1) ∧ decode code 1158 = .ok (.iadd, 1) ∧ decode code 1159 = .ok (.iaload, 1) ∧ decode code 1160 = .ok (.invokevirtual 168, 3) ∧ decode code 1163 = .ok (.aload_n 2, 1) ∧ decode code 1164 = .ok (.aload_n 0, 1) ∧ decode code 1165 = .ok (.iload_n 3, 1) := by decide +kernel
set_option maxRecDepth 20000 in
theorem eg_L_768 : decode code 1166 = .ok (.iconst 1, 1) ∧ decode code 1167 = .ok (.iadd, 1) ∧ decode code 1168 = .ok (.iaload, 1) ∧ decode code 1169 = .ok (.invokevirtual 171, 3) ∧ decode code 1172 = .ok (.if_icmp .eq (5), 3) ∧ decode code 1175 = .ok (.iconst 0, 1) ∧ decode code 1176 = .ok (.ireturn, 1) ∧ decode code 1177 = .ok (.iinc 3 5, 3) := by decide +kernel
set_option maxRecDepth 20000 in
theorem eg_L_776 : decode code 1180 = .ok (.goto (-1162), 3) ∧ decode code 1183 = .ok (.iconst 1, 1) ∧ decode code 1184 = .ok (.ireturn, 1) := by decide +kernel
theorem d_L_0 {nm : String} : zD (m_L nm) 0 (.new 7) 3 3 := ⟨eg_L_0.1, rfl⟩
theorem d_L_3 {nm : String} : zD (m_L nm) 3 (.dup) 1 4 := ⟨eg_L_0.2.1, rfl⟩
theorem d_L_4 {nm : String} : zD (m_L nm) 4 (.invokespecial 9) 3 7 := ⟨eg_L_0.2.2.1, rfl⟩
theorem d_L_7 {nm : String} : zD (m_L nm) 7 (.astore_n 1) 1 8 := ⟨eg_L_0.2.2.2.1, rfl⟩
theorem d_L_8 {nm : String} : zD (m_L nm) 8 (.new 10) 3 11 := ⟨eg_L_0.2.2.2.2.1, rfl⟩
theorem d_L_11 {nm : String} : zD (m_L nm) 11 (.dup) 1 12 := ⟨eg_L_0.2.2.2.2.2.1, rfl⟩
theorem d_L_12 {nm : String} : zD (m_L nm) 12 (.invokespecial 12) 3 15 := ⟨eg_L_0.2.2.2.2.2.2.1, rfl⟩
theorem d_L_15 {nm : String} : zD (m_L nm) 15 (.astore_n 2) 1 16 := ⟨eg_L_0.2.2.2.2.2.2.2, rfl⟩
theorem d_L_16 {nm : String} : zD (m_L nm) 16 (.iconst 0) 1 17 := ⟨eg_L_8.1, rfl⟩
theorem d_L_17 {nm : String} : zD (m_L nm) 17 (.istore_n 3) 1 18 := ⟨eg_L_8.2.1, rfl⟩
theorem d_L_18 {nm : String} : zD (m_L nm) 18 (.iload_n 3) 1 19 := ⟨eg_L_8.2.2.1, rfl⟩
theorem d_L_19 {nm : String} : zD (m_L nm) 19 (.aload_n 0) 1 20 := ⟨eg_L_8.2.2.2.1, rfl⟩
theorem d_L_20 {nm : String} : zD (m_L nm) 20 (.arraylength) 1 21 := ⟨eg_L_8.2.2.2.2.1, rfl⟩
theorem d_L_21 {nm : String} : zD (m_L nm) 21 (.iconst 5) 1 22 := ⟨eg_L_8.2.2.2.2.2.1, rfl⟩
theorem d_L_22 {nm : String} : zD (m_L nm) 22 (.isub) 1 23 := ⟨eg_L_8.2.2.2.2.2.2.1, rfl⟩
theorem d_L_23 {nm : String} : zDj (m_L nm) 23 (.if_icmp .gt) 26 1183 := ⟨1160, eg_L_8.2.2.2.2.2.2.2, rfl, by decide⟩
theorem d_L_26 {nm : String} : zD (m_L nm) 26 (.aload_n 0) 1 27 := ⟨eg_L_16.1, rfl⟩
theorem d_L_27 {nm : String} : zD (m_L nm) 27 (.iload_n 3) 1 28 := ⟨eg_L_16.2.1, rfl⟩
theorem d_L_28 {nm : String} : zD (m_L nm) 28 (.iaload) 1 29 := ⟨eg_L_16.2.2.1, rfl⟩
theorem d_L_29 {nm : String} : zD (m_L nm) 29 (.bipush 63) 2 31 := ⟨eg_L_16.2.2.2.1, rfl⟩
theorem d_L_31 {nm : String} : zD (m_L nm) 31 (.iand) 1 32 := ⟨eg_L_16.2.2.2.2.1, rfl⟩
theorem d_L_32 : decode code 32 = .ok (.tableswitch 1145 0 36 #[164, 217, 240, 253, 266, 289, 322, 355, 378, 391, 404, 427, 450, 463, 516, 559, 582, 605, 628, 651, 664, 687, 720, 743, 766, 779, 802, 825, 858, 881, 924, 947, 970, 1013, 1056, 1109, 1122], 164) := eg_L_16.2.2.2.2.2.1
theorem d_L_196 {nm : String} : zD (m_L nm) 196 (.aload_n 1) 1 197 := ⟨eg_L_16.2.2.2.2.2.2.1, rfl⟩
theorem d_L_197 {nm : String} : zD (m_L nm) 197 (.aload_n 0) 1 198 := ⟨eg_L_16.2.2.2.2.2.2.2, rfl⟩
theorem d_L_198 {nm : String} : zD (m_L nm) 198 (.iload_n 3) 1 199 := ⟨eg_L_24.1, rfl⟩
theorem d_L_199 {nm : String} : zD (m_L nm) 199 (.iconst 1) 1 200 := ⟨eg_L_24.2.1, rfl⟩
theorem d_L_200 {nm : String} : zD (m_L nm) 200 (.iadd) 1 201 := ⟨eg_L_24.2.2.1, rfl⟩
theorem d_L_201 {nm : String} : zD (m_L nm) 201 (.iaload) 1 202 := ⟨eg_L_24.2.2.2.1, rfl⟩
theorem d_L_202 {nm : String} : zD (m_L nm) 202 (.i2l) 1 203 := ⟨eg_L_24.2.2.2.2.1, rfl⟩
theorem d_L_203 {nm : String} : zD (m_L nm) 203 (.bipush 32) 2 205 := ⟨eg_L_24.2.2.2.2.2.1, rfl⟩
theorem d_L_205 {nm : String} : zD (m_L nm) 205 (.lshl) 1 206 := ⟨eg_L_24.2.2.2.2.2.2.1, rfl⟩
theorem d_L_206 {nm : String} : zD (m_L nm) 206 (.aload_n 0) 1 207 := ⟨eg_L_24.2.2.2.2.2.2.2, rfl⟩
theorem d_L_207 {nm : String} : zD (m_L nm) 207 (.iload_n 3) 1 208 := ⟨eg_L_32.1, rfl⟩
theorem d_L_208 {nm : String} : zD (m_L nm) 208 (.iconst 2) 1 209 := ⟨eg_L_32.2.1, rfl⟩
theorem d_L_209 {nm : String} : zD (m_L nm) 209 (.iadd) 1 210 := ⟨eg_L_32.2.2.1, rfl⟩
theorem d_L_210 {nm : String} : zD (m_L nm) 210 (.iaload) 1 211 := ⟨eg_L_32.2.2.2.1, rfl⟩
theorem d_L_211 {nm : String} : zD (m_L nm) 211 (.i2l) 1 212 := ⟨eg_L_32.2.2.2.2.1, rfl⟩
theorem d_L_212 {nm : String} : zD (m_L nm) 212 (.ldc2_w 13) 3 215 := ⟨eg_L_32.2.2.2.2.2.1, rfl⟩
theorem d_L_215 {nm : String} : zD (m_L nm) 215 (.land) 1 216 := ⟨eg_L_32.2.2.2.2.2.2.1, rfl⟩
theorem d_L_216 {nm : String} : zD (m_L nm) 216 (.lor) 1 217 := ⟨eg_L_32.2.2.2.2.2.2.2, rfl⟩
theorem d_L_217 {nm : String} : zD (m_L nm) 217 (.invokevirtual 15) 3 220 := ⟨eg_L_40.1, rfl⟩
theorem d_L_220 {nm : String} : zD (m_L nm) 220 (.pop) 1 221 := ⟨eg_L_40.2.1, rfl⟩
theorem d_L_221 {nm : String} : zD (m_L nm) 221 (.aload_n 2) 1 222 := ⟨eg_L_40.2.2.1, rfl⟩
theorem d_L_222 {nm : String} : zD (m_L nm) 222 (.aload_n 0) 1 223 := ⟨eg_L_40.2.2.2.1, rfl⟩
theorem d_L_223 {nm : String} : zD (m_L nm) 223 (.iload_n 3) 1 224 := ⟨eg_L_40.2.2.2.2.1, rfl⟩
theorem d_L_224 {nm : String} : zD (m_L nm) 224 (.iconst 1) 1 225 := ⟨eg_L_40.2.2.2.2.2.1, rfl⟩
theorem d_L_225 {nm : String} : zD (m_L nm) 225 (.iadd) 1 226 := ⟨eg_L_40.2.2.2.2.2.2.1, rfl⟩
theorem d_L_226 {nm : String} : zD (m_L nm) 226 (.iaload) 1 227 := ⟨eg_L_40.2.2.2.2.2.2.2, rfl⟩
theorem d_L_227 {nm : String} : zD (m_L nm) 227 (.i2l) 1 228 := ⟨eg_L_48.1, rfl⟩
theorem d_L_228 {nm : String} : zD (m_L nm) 228 (.bipush 32) 2 230 := ⟨eg_L_48.2.1, rfl⟩
theorem d_L_230 {nm : String} : zD (m_L nm) 230 (.lshl) 1 231 := ⟨eg_L_48.2.2.1, rfl⟩
theorem d_L_231 {nm : String} : zD (m_L nm) 231 (.aload_n 0) 1 232 := ⟨eg_L_48.2.2.2.1, rfl⟩
theorem d_L_232 {nm : String} : zD (m_L nm) 232 (.iload_n 3) 1 233 := ⟨eg_L_48.2.2.2.2.1, rfl⟩
theorem d_L_233 {nm : String} : zD (m_L nm) 233 (.iconst 2) 1 234 := ⟨eg_L_48.2.2.2.2.2.1, rfl⟩
theorem d_L_234 {nm : String} : zD (m_L nm) 234 (.iadd) 1 235 := ⟨eg_L_48.2.2.2.2.2.2.1, rfl⟩
theorem d_L_235 {nm : String} : zD (m_L nm) 235 (.iaload) 1 236 := ⟨eg_L_48.2.2.2.2.2.2.2, rfl⟩
theorem d_L_236 {nm : String} : zD (m_L nm) 236 (.i2l) 1 237 := ⟨eg_L_56.1, rfl⟩
theorem d_L_237 {nm : String} : zD (m_L nm) 237 (.ldc2_w 13) 3 240 := ⟨eg_L_56.2.1, rfl⟩
theorem d_L_240 {nm : String} : zD (m_L nm) 240 (.land) 1 241 := ⟨eg_L_56.2.2.1, rfl⟩
theorem d_L_241 {nm : String} : zD (m_L nm) 241 (.lor) 1 242 := ⟨eg_L_56.2.2.2.1, rfl⟩
theorem d_L_242 {nm : String} : zD (m_L nm) 242 (.invokevirtual 19) 3 245 := ⟨eg_L_56.2.2.2.2.1, rfl⟩
theorem d_L_245 {nm : String} : zD (m_L nm) 245 (.pop) 1 246 := ⟨eg_L_56.2.2.2.2.2.1, rfl⟩
theorem d_L_246 {nm : String} : zDj (m_L nm) 246 (.goto) 249 1177 := ⟨931, eg_L_56.2.2.2.2.2.2.1, rfl, by decide⟩
theorem d_L_249 {nm : String} : zD (m_L nm) 249 (.aload_n 1) 1 250 := ⟨eg_L_56.2.2.2.2.2.2.2, rfl⟩
theorem d_L_250 {nm : String} : zD (m_L nm) 250 (.aload_n 0) 1 251 := ⟨eg_L_64.1, rfl⟩
theorem d_L_251 {nm : String} : zD (m_L nm) 251 (.iload_n 3) 1 252 := ⟨eg_L_64.2.1, rfl⟩
theorem d_L_252 {nm : String} : zD (m_L nm) 252 (.iconst 1) 1 253 := ⟨eg_L_64.2.2.1, rfl⟩
theorem d_L_253 {nm : String} : zD (m_L nm) 253 (.iadd) 1 254 := ⟨eg_L_64.2.2.2.1, rfl⟩
theorem d_L_254 {nm : String} : zD (m_L nm) 254 (.iaload) 1 255 := ⟨eg_L_64.2.2.2.2.1, rfl⟩
theorem d_L_255 {nm : String} : zD (m_L nm) 255 (.invokevirtual 20) 3 258 := ⟨eg_L_64.2.2.2.2.2.1, rfl⟩
theorem d_L_258 {nm : String} : zD (m_L nm) 258 (.pop) 1 259 := ⟨eg_L_64.2.2.2.2.2.2.1, rfl⟩
theorem d_L_259 {nm : String} : zD (m_L nm) 259 (.aload_n 2) 1 260 := ⟨eg_L_64.2.2.2.2.2.2.2, rfl⟩
theorem d_L_260 {nm : String} : zD (m_L nm) 260 (.aload_n 0) 1 261 := ⟨eg_L_72.1, rfl⟩
theorem d_L_261 {nm : String} : zD (m_L nm) 261 (.iload_n 3) 1 262 := ⟨eg_L_72.2.1, rfl⟩
theorem d_L_262 {nm : String} : zD (m_L nm) 262 (.iconst 1) 1 263 := ⟨eg_L_72.2.2.1, rfl⟩
theorem d_L_263 {nm : String} : zD (m_L nm) 263 (.iadd) 1 264 := ⟨eg_L_72.2.2.2.1, rfl⟩
theorem d_L_264 {nm : String} : zD (m_L nm) 264 (.iaload) 1 265 := ⟨eg_L_72.2.2.2.2.1, rfl⟩
theorem d_L_265 {nm : String} : zD (m_L nm) 265 (.invokevirtual 24) 3 268 := ⟨eg_L_72.2.2.2.2.2.1, rfl⟩
theorem d_L_268 {nm : String} : zD (m_L nm) 268 (.pop) 1 269 := ⟨eg_L_72.2.2.2.2.2.2.1, rfl⟩
theorem d_L_269 {nm : String} : zDj (m_L nm) 269 (.goto) 272 1177 := ⟨908, eg_L_72.2.2.2.2.2.2.2, rfl, by decide⟩
theorem d_L_272 {nm : String} : zD (m_L nm) 272 (.aload_n 1) 1 273 := ⟨eg_L_80.1, rfl⟩
theorem d_L_273 {nm : String} : zD (m_L nm) 273 (.invokevirtual 25) 3 276 := ⟨eg_L_80.2.1, rfl⟩
theorem d_L_276 {nm : String} : zD (m_L nm) 276 (.pop) 1 277 := ⟨eg_L_80.2.2.1, rfl⟩
theorem d_L_277 {nm : String} : zD (m_L nm) 277 (.aload_n 2) 1 278 := ⟨eg_L_80.2.2.2.1, rfl⟩
theorem d_L_278 {nm : String} : zD (m_L nm) 278 (.invokevirtual 29) 3 281 := ⟨eg_L_80.2.2.2.2.1, rfl⟩
theorem d_L_281 {nm : String} : zD (m_L nm) 281 (.pop) 1 282 := ⟨eg_L_80.2.2.2.2.2.1, rfl⟩
theorem d_L_282 {nm : String} : zDj (m_L nm) 282 (.goto) 285 1177 := ⟨895, eg_L_80.2.2.2.2.2.2.1, rfl, by decide⟩
theorem d_L_285 {nm : String} : zD (m_L nm) 285 (.aload_n 1) 1 286 := ⟨eg_L_80.2.2.2.2.2.2.2, rfl⟩
theorem d_L_286 {nm : String} : zD (m_L nm) 286 (.invokevirtual 30) 3 289 := ⟨eg_L_88.1, rfl⟩
theorem d_L_289 {nm : String} : zD (m_L nm) 289 (.pop) 1 290 := ⟨eg_L_88.2.1, rfl⟩
theorem d_L_290 {nm : String} : zD (m_L nm) 290 (.aload_n 2) 1 291 := ⟨eg_L_88.2.2.1, rfl⟩
theorem d_L_291 {nm : String} : zD (m_L nm) 291 (.invokevirtual 33) 3 294 := ⟨eg_L_88.2.2.2.1, rfl⟩
theorem d_L_294 {nm : String} : zD (m_L nm) 294 (.pop) 1 295 := ⟨eg_L_88.2.2.2.2.1, rfl⟩
theorem d_L_295 {nm : String} : zDj (m_L nm) 295 (.goto) 298 1177 := ⟨882, eg_L_88.2.2.2.2.2.1, rfl, by decide⟩
theorem d_L_298 {nm : String} : zD (m_L nm) 298 (.aload_n 1) 1 299 := ⟨eg_L_88.2.2.2.2.2.2.1, rfl⟩
theorem d_L_299 {nm : String} : zD (m_L nm) 299 (.aload_n 0) 1 300 := ⟨eg_L_88.2.2.2.2.2.2.2, rfl⟩
theorem d_L_300 {nm : String} : zD (m_L nm) 300 (.iload_n 3) 1 301 := ⟨eg_L_96.1, rfl⟩
theorem d_L_301 {nm : String} : zD (m_L nm) 301 (.iconst 1) 1 302 := ⟨eg_L_96.2.1, rfl⟩
theorem d_L_302 {nm : String} : zD (m_L nm) 302 (.iadd) 1 303 := ⟨eg_L_96.2.2.1, rfl⟩
theorem d_L_303 {nm : String} : zD (m_L nm) 303 (.iaload) 1 304 := ⟨eg_L_96.2.2.2.1, rfl⟩
theorem d_L_304 {nm : String} : zD (m_L nm) 304 (.invokevirtual 34) 3 307 := ⟨eg_L_96.2.2.2.2.1, rfl⟩
theorem d_L_307 {nm : String} : zD (m_L nm) 307 (.pop) 1 308 := ⟨eg_L_96.2.2.2.2.2.1, rfl⟩
theorem d_L_308 {nm : String} : zD (m_L nm) 308 (.aload_n 2) 1 309 := ⟨eg_L_96.2.2.2.2.2.2.1, rfl⟩
theorem d_L_309 {nm : String} : zD (m_L nm) 309 (.aload_n 0) 1 310 := ⟨eg_L_96.2.2.2.2.2.2.2, rfl⟩
theorem d_L_310 {nm : String} : zD (m_L nm) 310 (.iload_n 3) 1 311 := ⟨eg_L_104.1, rfl⟩
theorem d_L_311 {nm : String} : zD (m_L nm) 311 (.iconst 1) 1 312 := ⟨eg_L_104.2.1, rfl⟩
theorem d_L_312 {nm : String} : zD (m_L nm) 312 (.iadd) 1 313 := ⟨eg_L_104.2.2.1, rfl⟩
theorem d_L_313 {nm : String} : zD (m_L nm) 313 (.iaload) 1 314 := ⟨eg_L_104.2.2.2.1, rfl⟩
theorem d_L_314 {nm : String} : zD (m_L nm) 314 (.invokevirtual 37) 3 317 := ⟨eg_L_104.2.2.2.2.1, rfl⟩
theorem d_L_317 {nm : String} : zD (m_L nm) 317 (.pop) 1 318 := ⟨eg_L_104.2.2.2.2.2.1, rfl⟩
theorem d_L_318 {nm : String} : zDj (m_L nm) 318 (.goto) 321 1177 := ⟨859, eg_L_104.2.2.2.2.2.2.1, rfl, by decide⟩
theorem d_L_321 {nm : String} : zD (m_L nm) 321 (.aload_n 1) 1 322 := ⟨eg_L_104.2.2.2.2.2.2.2, rfl⟩
theorem d_L_322 {nm : String} : zD (m_L nm) 322 (.aload_n 0) 1 323 := ⟨eg_L_112.1, rfl⟩
theorem d_L_323 {nm : String} : zD (m_L nm) 323 (.iload_n 3) 1 324 := ⟨eg_L_112.2.1, rfl⟩
theorem d_L_324 {nm : String} : zD (m_L nm) 324 (.iconst 1) 1 325 := ⟨eg_L_112.2.2.1, rfl⟩
theorem d_L_325 {nm : String} : zD (m_L nm) 325 (.iadd) 1 326 := ⟨eg_L_112.2.2.2.1, rfl⟩
theorem d_L_326 {nm : String} : zD (m_L nm) 326 (.iaload) 1 327 := ⟨eg_L_112.2.2.2.2.1, rfl⟩
theorem d_L_327 {nm : String} : zD (m_L nm) 327 (.aload_n 0) 1 328 := ⟨eg_L_112.2.2.2.2.2.1, rfl⟩
theorem d_L_328 {nm : String} : zD (m_L nm) 328 (.iload_n 3) 1 329 := ⟨eg_L_112.2.2.2.2.2.2.1, rfl⟩
theorem d_L_329 {nm : String} : zD (m_L nm) 329 (.iconst 2) 1 330 := ⟨eg_L_112.2.2.2.2.2.2.2, rfl⟩
theorem d_L_330 {nm : String} : zD (m_L nm) 330 (.iadd) 1 331 := ⟨eg_L_120.1, rfl⟩
theorem d_L_331 {nm : String} : zD (m_L nm) 331 (.iaload) 1 332 := ⟨eg_L_120.2.1, rfl⟩
theorem d_L_332 {nm : String} : zD (m_L nm) 332 (.invokevirtual 38) 3 335 := ⟨eg_L_120.2.2.1, rfl⟩
theorem d_L_335 {nm : String} : zD (m_L nm) 335 (.pop) 1 336 := ⟨eg_L_120.2.2.2.1, rfl⟩
theorem d_L_336 {nm : String} : zD (m_L nm) 336 (.aload_n 2) 1 337 := ⟨eg_L_120.2.2.2.2.1, rfl⟩
theorem d_L_337 {nm : String} : zD (m_L nm) 337 (.aload_n 0) 1 338 := ⟨eg_L_120.2.2.2.2.2.1, rfl⟩
theorem d_L_338 {nm : String} : zD (m_L nm) 338 (.iload_n 3) 1 339 := ⟨eg_L_120.2.2.2.2.2.2.1, rfl⟩
theorem d_L_339 {nm : String} : zD (m_L nm) 339 (.iconst 1) 1 340 := ⟨eg_L_120.2.2.2.2.2.2.2, rfl⟩
theorem d_L_340 {nm : String} : zD (m_L nm) 340 (.iadd) 1 341 := ⟨eg_L_128.1, rfl⟩
theorem d_L_341 {nm : String} : zD (m_L nm) 341 (.iaload) 1 342 := ⟨eg_L_128.2.1, rfl⟩
theorem d_L_342 {nm : String} : zD (m_L nm) 342 (.aload_n 0) 1 343 := ⟨eg_L_128.2.2.1, rfl⟩
theorem d_L_343 {nm : String} : zD (m_L nm) 343 (.iload_n 3) 1 344 := ⟨eg_L_128.2.2.2.1, rfl⟩
theorem d_L_344 {nm : String} : zD (m_L nm) 344 (.iconst 2) 1 345 := ⟨eg_L_128.2.2.2.2.1, rfl⟩
theorem d_L_345 {nm : String} : zD (m_L nm) 345 (.iadd) 1 346 := ⟨eg_L_128.2.2.2.2.2.1, rfl⟩
theorem d_L_346 {nm : String} : zD (m_L nm) 346 (.iaload) 1 347 := ⟨eg_L_128.2.2.2.2.2.2.1, rfl⟩
theorem d_L_347 {nm : String} : zD (m_L nm) 347 (.invokevirtual 42) 3 350 := ⟨eg_L_128.2.2.2.2.2.2.2, rfl⟩
theorem d_L_350 {nm : String} : zD (m_L nm) 350 (.pop) 1 351 := ⟨eg_L_136.1, rfl⟩
theorem d_L_351 {nm : String} : zDj (m_L nm) 351 (.goto) 354 1177 := ⟨826, eg_L_136.2.1, rfl, by decide⟩
theorem d_L_354 {nm : String} : zD (m_L nm) 354 (.aload_n 1) 1 355 := ⟨eg_L_136.2.2.1, rfl⟩
theorem d_L_355 {nm : String} : zD (m_L nm) 355 (.aload_n 0) 1 356 := ⟨eg_L_136.2.2.2.1, rfl⟩
theorem d_L_356 {nm : String} : zD (m_L nm) 356 (.iload_n 3) 1 357 := ⟨eg_L_136.2.2.2.2.1, rfl⟩
theorem d_L_357 {nm : String} : zD (m_L nm) 357 (.iconst 1) 1 358 := ⟨eg_L_136.2.2.2.2.2.1, rfl⟩
theorem d_L_358 {nm : String} : zD (m_L nm) 358 (.iadd) 1 359 := ⟨eg_L_136.2.2.2.2.2.2.1, rfl⟩
theorem d_L_359 {nm : String} : zD (m_L nm) 359 (.iaload) 1 360 := ⟨eg_L_136.2.2.2.2.2.2.2, rfl⟩
theorem d_L_360 {nm : String} : zD (m_L nm) 360 (.aload_n 0) 1 361 := ⟨eg_L_144.1, rfl⟩
theorem d_L_361 {nm : String} : zD (m_L nm) 361 (.iload_n 3) 1 362 := ⟨eg_L_144.2.1, rfl⟩
theorem d_L_362 {nm : String} : zD (m_L nm) 362 (.iconst 2) 1 363 := ⟨eg_L_144.2.2.1, rfl⟩
theorem d_L_363 {nm : String} : zD (m_L nm) 363 (.iadd) 1 364 := ⟨eg_L_144.2.2.2.1, rfl⟩
theorem d_L_364 {nm : String} : zD (m_L nm) 364 (.iaload) 1 365 := ⟨eg_L_144.2.2.2.2.1, rfl⟩
theorem d_L_365 {nm : String} : zD (m_L nm) 365 (.invokevirtual 43) 3 368 := ⟨eg_L_144.2.2.2.2.2.1, rfl⟩
theorem d_L_368 {nm : String} : zD (m_L nm) 368 (.pop) 1 369 := ⟨eg_L_144.2.2.2.2.2.2.1, rfl⟩
theorem d_L_369 {nm : String} : zD (m_L nm) 369 (.aload_n 2) 1 370 := ⟨eg_L_144.2.2.2.2.2.2.2, rfl⟩
theorem d_L_370 {nm : String} : zD (m_L nm) 370 (.aload_n 0) 1 371 := ⟨eg_L_152.1, rfl⟩
theorem d_L_371 {nm : String} : zD (m_L nm) 371 (.iload_n 3) 1 372 := ⟨eg_L_152.2.1, rfl⟩
theorem d_L_372 {nm : String} : zD (m_L nm) 372 (.iconst 1) 1 373 := ⟨eg_L_152.2.2.1, rfl⟩
theorem d_L_373 {nm : String} : zD (m_L nm) 373 (.iadd) 1 374 := ⟨eg_L_152.2.2.2.1, rfl⟩
theorem d_L_374 {nm : String} : zD (m_L nm) 374 (.iaload) 1 375 := ⟨eg_L_152.2.2.2.2.1, rfl⟩
theorem d_L_375 {nm : String} : zD (m_L nm) 375 (.aload_n 0) 1 376 := ⟨eg_L_152.2.2.2.2.2.1, rfl⟩
theorem d_L_376 {nm : String} : zD (m_L nm) 376 (.iload_n 3) 1 377 := ⟨eg_L_152.2.2.2.2.2.2.1, rfl⟩
theorem d_L_377 {nm : String} : zD (m_L nm) 377 (.iconst 2) 1 378 := ⟨eg_L_152.2.2.2.2.2.2.2, rfl⟩
theorem d_L_378 {nm : String} : zD (m_L nm) 378 (.iadd) 1 379 := ⟨eg_L_160.1, rfl⟩
theorem d_L_379 {nm : String} : zD (m_L nm) 379 (.iaload) 1 380 := ⟨eg_L_160.2.1, rfl⟩
theorem d_L_380 {nm : String} : zD (m_L nm) 380 (.invokevirtual 46) 3 383 := ⟨eg_L_160.2.2.1, rfl⟩
theorem d_L_383 {nm : String} : zD (m_L nm) 383 (.pop) 1 384 := ⟨eg_L_160.2.2.2.1, rfl⟩
theorem d_L_384 {nm : String} : zDj (m_L nm) 384 (.goto) 387 1177 := ⟨793, eg_L_160.2.2.2.2.1, rfl, by decide⟩
theorem d_L_387 {nm : String} : zD (m_L nm) 387 (.aload_n 1) 1 388 := ⟨eg_L_160.2.2.2.2.2.1, rfl⟩
theorem d_L_388 {nm : String} : zD (m_L nm) 388 (.aload_n 0) 1 389 := ⟨eg_L_160.2.2.2.2.2.2.1, rfl⟩
theorem d_L_389 {nm : String} : zD (m_L nm) 389 (.iload_n 3) 1 390 := ⟨eg_L_160.2.2.2.2.2.2.2, rfl⟩
theorem d_L_390 {nm : String} : zD (m_L nm) 390 (.iconst 1) 1 391 := ⟨eg_L_168.1, rfl⟩
theorem d_L_391 {nm : String} : zD (m_L nm) 391 (.iadd) 1 392 := ⟨eg_L_168.2.1, rfl⟩
theorem d_L_392 {nm : String} : zD (m_L nm) 392 (.iaload) 1 393 := ⟨eg_L_168.2.2.1, rfl⟩
theorem d_L_393 {nm : String} : zD (m_L nm) 393 (.invokevirtual 47) 3 396 := ⟨eg_L_168.2.2.2.1, rfl⟩
theorem d_L_396 {nm : String} : zD (m_L nm) 396 (.pop) 1 397 := ⟨eg_L_168.2.2.2.2.1, rfl⟩
theorem d_L_397 {nm : String} : zD (m_L nm) 397 (.aload_n 2) 1 398 := ⟨eg_L_168.2.2.2.2.2.1, rfl⟩
theorem d_L_398 {nm : String} : zD (m_L nm) 398 (.aload_n 0) 1 399 := ⟨eg_L_168.2.2.2.2.2.2.1, rfl⟩
theorem d_L_399 {nm : String} : zD (m_L nm) 399 (.iload_n 3) 1 400 := ⟨eg_L_168.2.2.2.2.2.2.2, rfl⟩
theorem d_L_400 {nm : String} : zD (m_L nm) 400 (.iconst 1) 1 401 := ⟨eg_L_176.1, rfl⟩
theorem d_L_401 {nm : String} : zD (m_L nm) 401 (.iadd) 1 402 := ⟨eg_L_176.2.1, rfl⟩
theorem d_L_402 {nm : String} : zD (m_L nm) 402 (.iaload) 1 403 := ⟨eg_L_176.2.2.1, rfl⟩
theorem d_L_403 {nm : String} : zD (m_L nm) 403 (.invokevirtual 50) 3 406 := ⟨eg_L_176.2.2.2.1, rfl⟩
theorem d_L_406 {nm : String} : zD (m_L nm) 406 (.pop) 1 407 := ⟨eg_L_176.2.2.2.2.1, rfl⟩
theorem d_L_407 {nm : String} : zDj (m_L nm) 407 (.goto) 410 1177 := ⟨770, eg_L_176.2.2.2.2.2.1, rfl, by decide⟩
theorem d_L_410 {nm : String} : zD (m_L nm) 410 (.aload_n 1) 1 411 := ⟨eg_L_176.2.2.2.2.2.2.1, rfl⟩
theorem d_L_411 {nm : String} : zD (m_L nm) 411 (.invokevirtual 51) 3 414 := ⟨eg_L_176.2.2.2.2.2.2.2, rfl⟩
theorem d_L_414 {nm : String} : zD (m_L nm) 414 (.pop) 1 415 := ⟨eg_L_184.1, rfl⟩
theorem d_L_415 {nm : String} : zD (m_L nm) 415 (.aload_n 2) 1 416 := ⟨eg_L_184.2.1, rfl⟩
theorem d_L_416 {nm : String} : zD (m_L nm) 416 (.invokevirtual 54) 3 419 := ⟨eg_L_184.2.2.1, rfl⟩
theorem d_L_419 {nm : String} : zD (m_L nm) 419 (.pop) 1 420 := ⟨eg_L_184.2.2.2.1, rfl⟩
theorem d_L_420 {nm : String} : zDj (m_L nm) 420 (.goto) 423 1177 := ⟨757, eg_L_184.2.2.2.2.1, rfl, by decide⟩
theorem d_L_423 {nm : String} : zD (m_L nm) 423 (.aload_n 1) 1 424 := ⟨eg_L_184.2.2.2.2.2.1, rfl⟩
theorem d_L_424 {nm : String} : zD (m_L nm) 424 (.invokevirtual 55) 3 427 := ⟨eg_L_184.2.2.2.2.2.2.1, rfl⟩
theorem d_L_427 {nm : String} : zD (m_L nm) 427 (.pop) 1 428 := ⟨eg_L_184.2.2.2.2.2.2.2, rfl⟩
theorem d_L_428 {nm : String} : zD (m_L nm) 428 (.aload_n 2) 1 429 := ⟨eg_L_192.1, rfl⟩
theorem d_L_429 {nm : String} : zD (m_L nm) 429 (.invokevirtual 58) 3 432 := ⟨eg_L_192.2.1, rfl⟩
theorem d_L_432 {nm : String} : zD (m_L nm) 432 (.pop) 1 433 := ⟨eg_L_192.2.2.1, rfl⟩
theorem d_L_433 {nm : String} : zDj (m_L nm) 433 (.goto) 436 1177 := ⟨744, eg_L_192.2.2.2.1, rfl, by decide⟩
theorem d_L_436 {nm : String} : zD (m_L nm) 436 (.aload_n 1) 1 437 := ⟨eg_L_192.2.2.2.2.1, rfl⟩
theorem d_L_437 {nm : String} : zD (m_L nm) 437 (.aload_n 0) 1 438 := ⟨eg_L_192.2.2.2.2.2.1, rfl⟩
theorem d_L_438 {nm : String} : zD (m_L nm) 438 (.iload_n 3) 1 439 := ⟨eg_L_192.2.2.2.2.2.2.1, rfl⟩
theorem d_L_439 {nm : String} : zD (m_L nm) 439 (.iconst 1) 1 440 := ⟨eg_L_192.2.2.2.2.2.2.2, rfl⟩
theorem d_L_440 {nm : String} : zD (m_L nm) 440 (.iadd) 1 441 := ⟨eg_L_200.1, rfl⟩
theorem d_L_441 {nm : String} : zD (m_L nm) 441 (.iaload) 1 442 := ⟨eg_L_200.2.1, rfl⟩
theorem d_L_442 {nm : String} : zD (m_L nm) 442 (.invokevirtual 59) 3 445 := ⟨eg_L_200.2.2.1, rfl⟩
theorem d_L_445 {nm : String} : zD (m_L nm) 445 (.pop) 1 446 := ⟨eg_L_200.2.2.2.1, rfl⟩
theorem d_L_446 {nm : String} : zD (m_L nm) 446 (.aload_n 2) 1 447 := ⟨eg_L_200.2.2.2.2.1, rfl⟩
theorem d_L_447 {nm : String} : zD (m_L nm) 447 (.aload_n 0) 1 448 := ⟨eg_L_200.2.2.2.2.2.1, rfl⟩
theorem d_L_448 {nm : String} : zD (m_L nm) 448 (.iload_n 3) 1 449 := ⟨eg_L_200.2.2.2.2.2.2.1, rfl⟩
theorem d_L_449 {nm : String} : zD (m_L nm) 449 (.iconst 1) 1 450 := ⟨eg_L_200.2.2.2.2.2.2.2, rfl⟩
theorem d_L_450 {nm : String} : zD (m_L nm) 450 (.iadd) 1 451 := ⟨eg_L_208.1, rfl⟩
theorem d_L_451 {nm : String} : zD (m_L nm) 451 (.iaload) 1 452 := ⟨eg_L_208.2.1, rfl⟩
theorem d_L_452 {nm : String} : zD (m_L nm) 452 (.invokevirtual 62) 3 455 := ⟨eg_L_208.2.2.1, rfl⟩
theorem d_L_455 {nm : String} : zD (m_L nm) 455 (.pop) 1 456 := ⟨eg_L_208.2.2.2.1, rfl⟩
theorem d_L_456 {nm : String} : zDj (m_L nm) 456 (.goto) 459 1177 := ⟨721, eg_L_208.2.2.2.2.1, rfl, by decide⟩
theorem d_L_459 {nm : String} : zD (m_L nm) 459 (.aload_n 1) 1 460 := ⟨eg_L_208.2.2.2.2.2.1, rfl⟩
theorem d_L_460 {nm : String} : zD (m_L nm) 460 (.aload_n 0) 1 461 := ⟨eg_L_208.2.2.2.2.2.2.1, rfl⟩
theorem d_L_461 {nm : String} : zD (m_L nm) 461 (.iload_n 3) 1 462 := ⟨eg_L_208.2.2.2.2.2.2.2, rfl⟩
theorem d_L_462 {nm : String} : zD (m_L nm) 462 (.iconst 1) 1 463 := ⟨eg_L_216.1, rfl⟩
theorem d_L_463 {nm : String} : zD (m_L nm) 463 (.iadd) 1 464 := ⟨eg_L_216.2.1, rfl⟩
theorem d_L_464 {nm : String} : zD (m_L nm) 464 (.iaload) 1 465 := ⟨eg_L_216.2.2.1, rfl⟩
theorem d_L_465 {nm : String} : zD (m_L nm) 465 (.invokevirtual 63) 3 468 := ⟨eg_L_216.2.2.2.1, rfl⟩
theorem d_L_468 {nm : String} : zD (m_L nm) 468 (.pop2) 1 469 := ⟨eg_L_216.2.2.2.2.1, rfl⟩
theorem d_L_469 {nm : String} : zD (m_L nm) 469 (.aload_n 2) 1 470 := ⟨eg_L_216.2.2.2.2.2.1, rfl⟩
theorem d_L_470 {nm : String} : zD (m_L nm) 470 (.aload_n 0) 1 471 := ⟨eg_L_216.2.2.2.2.2.2.1, rfl⟩
theorem d_L_471 {nm : String} : zD (m_L nm) 471 (.iload_n 3) 1 472 := ⟨eg_L_216.2.2.2.2.2.2.2, rfl⟩
theorem d_L_472 {nm : String} : zD (m_L nm) 472 (.iconst 1) 1 473 := ⟨eg_L_224.1, rfl⟩
theorem d_L_473 {nm : String} : zD (m_L nm) 473 (.iadd) 1 474 := ⟨eg_L_224.2.1, rfl⟩
theorem d_L_474 {nm : String} : zD (m_L nm) 474 (.iaload) 1 475 := ⟨eg_L_224.2.2.1, rfl⟩
theorem d_L_475 {nm : String} : zD (m_L nm) 475 (.invokevirtual 67) 3 478 := ⟨eg_L_224.2.2.2.1, rfl⟩
theorem d_L_478 {nm : String} : zD (m_L nm) 478 (.pop2) 1 479 := ⟨eg_L_224.2.2.2.2.1, rfl⟩
theorem d_L_479 {nm : String} : zDj (m_L nm) 479 (.goto) 482 1177 := ⟨698, eg_L_224.2.2.2.2.2.1, rfl, by decide⟩
theorem d_L_482 {nm : String} : zD (m_L nm) 482 (.aload_n 1) 1 483 := ⟨eg_L_224.2.2.2.2.2.2.1, rfl⟩
theorem d_L_483 {nm : String} : zD (m_L nm) 483 (.invokevirtual 68) 3 486 := ⟨eg_L_224.2.2.2.2.2.2.2, rfl⟩
theorem d_L_486 {nm : String} : zD (m_L nm) 486 (.pop) 1 487 := ⟨eg_L_232.1, rfl⟩
theorem d_L_487 {nm : String} : zD (m_L nm) 487 (.aload_n 2) 1 488 := ⟨eg_L_232.2.1, rfl⟩
theorem d_L_488 {nm : String} : zD (m_L nm) 488 (.invokevirtual 71) 3 491 := ⟨eg_L_232.2.2.1, rfl⟩
theorem d_L_491 {nm : String} : zD (m_L nm) 491 (.pop) 1 492 := ⟨eg_L_232.2.2.2.1, rfl⟩
theorem d_L_492 {nm : String} : zDj (m_L nm) 492 (.goto) 495 1177 := ⟨685, eg_L_232.2.2.2.2.1, rfl, by decide⟩
theorem d_L_495 {nm : String} : zD (m_L nm) 495 (.aload_n 1) 1 496 := ⟨eg_L_232.2.2.2.2.2.1, rfl⟩
theorem d_L_496 {nm : String} : zD (m_L nm) 496 (.aload_n 0) 1 497 := ⟨eg_L_232.2.2.2.2.2.2.1, rfl⟩
theorem d_L_497 {nm : String} : zD (m_L nm) 497 (.iload_n 3) 1 498 := ⟨eg_L_232.2.2.2.2.2.2.2, rfl⟩
theorem d_L_498 {nm : String} : zD (m_L nm) 498 (.iconst 1) 1 499 := ⟨eg_L_240.1, rfl⟩
theorem d_L_499 {nm : String} : zD (m_L nm) 499 (.iadd) 1 500 := ⟨eg_L_240.2.1, rfl⟩
theorem d_L_500 {nm : String} : zD (m_L nm) 500 (.iaload) 1 501 := ⟨eg_L_240.2.2.1, rfl⟩
theorem d_L_501 {nm : String} : zD (m_L nm) 501 (.aload_n 0) 1 502 := ⟨eg_L_240.2.2.2.1, rfl⟩
theorem d_L_502 {nm : String} : zD (m_L nm) 502 (.iload_n 3) 1 503 := ⟨eg_L_240.2.2.2.2.1, rfl⟩
theorem d_L_503 {nm : String} : zD (m_L nm) 503 (.iconst 2) 1 504 := ⟨eg_L_240.2.2.2.2.2.1, rfl⟩
theorem d_L_504 {nm : String} : zD (m_L nm) 504 (.iadd) 1 505 := ⟨eg_L_240.2.2.2.2.2.2.1, rfl⟩
theorem d_L_505 {nm : String} : zD (m_L nm) 505 (.iaload) 1 506 := ⟨eg_L_240.2.2.2.2.2.2.2, rfl⟩
theorem d_L_506 {nm : String} : zD (m_L nm) 506 (.aload_n 0) 1 507 := ⟨eg_L_248.1, rfl⟩
theorem d_L_507 {nm : String} : zD (m_L nm) 507 (.iload_n 3) 1 508 := ⟨eg_L_248.2.1, rfl⟩
theorem d_L_508 {nm : String} : zD (m_L nm) 508 (.iconst 3) 1 509 := ⟨eg_L_248.2.2.1, rfl⟩
theorem d_L_509 {nm : String} : zD (m_L nm) 509 (.iadd) 1 510 := ⟨eg_L_248.2.2.2.1, rfl⟩
theorem d_L_510 {nm : String} : zD (m_L nm) 510 (.iaload) 1 511 := ⟨eg_L_248.2.2.2.2.1, rfl⟩
theorem d_L_511 {nm : String} : zD (m_L nm) 511 (.aload_n 0) 1 512 := ⟨eg_L_248.2.2.2.2.2.1, rfl⟩
theorem d_L_512 {nm : String} : zD (m_L nm) 512 (.iload_n 3) 1 513 := ⟨eg_L_248.2.2.2.2.2.2.1, rfl⟩
theorem d_L_513 {nm : String} : zD (m_L nm) 513 (.iconst 4) 1 514 := ⟨eg_L_248.2.2.2.2.2.2.2, rfl⟩
theorem d_L_514 {nm : String} : zD (m_L nm) 514 (.iadd) 1 515 := ⟨eg_L_256.1, rfl⟩
theorem d_L_515 {nm : String} : zD (m_L nm) 515 (.iaload) 1 516 := ⟨eg_L_256.2.1, rfl⟩
theorem d_L_516 {nm : String} : zD (m_L nm) 516 (.invokevirtual 72) 3 519 := ⟨eg_L_256.2.2.1, rfl⟩
theorem d_L_519 {nm : String} : zD (m_L nm) 519 (.pop) 1 520 := ⟨eg_L_256.2.2.2.1, rfl⟩
theorem d_L_520 {nm : String} : zD (m_L nm) 520 (.aload_n 2) 1 521 := ⟨eg_L_256.2.2.2.2.1, rfl⟩
theorem d_L_521 {nm : String} : zD (m_L nm) 521 (.aload_n 0) 1 522 := ⟨eg_L_256.2.2.2.2.2.1, rfl⟩
theorem d_L_522 {nm : String} : zD (m_L nm) 522 (.iload_n 3) 1 523 := ⟨eg_L_256.2.2.2.2.2.2.1, rfl⟩
theorem d_L_523 {nm : String} : zD (m_L nm) 523 (.iconst 1) 1 524 := ⟨eg_L_256.2.2.2.2.2.2.2, rfl⟩
theorem d_L_524 {nm : String} : zD (m_L nm) 524 (.iadd) 1 525 := ⟨eg_L_264.1, rfl⟩
theorem d_L_525 {nm : String} : zD (m_L nm) 525 (.iaload) 1 526 := ⟨eg_L_264.2.1, rfl⟩
theorem d_L_526 {nm : String} : zD (m_L nm) 526 (.aload_n 0) 1 527 := ⟨eg_L_264.2.2.1, rfl⟩
theorem d_L_527 {nm : String} : zD (m_L nm) 527 (.iload_n 3) 1 528 := ⟨eg_L_264.2.2.2.1, rfl⟩
theorem d_L_528 {nm : String} : zD (m_L nm) 528 (.iconst 2) 1 529 := ⟨eg_L_264.2.2.2.2.1, rfl⟩
theorem d_L_529 {nm : String} : zD (m_L nm) 529 (.iadd) 1 530 := ⟨eg_L_264.2.2.2.2.2.1, rfl⟩
theorem d_L_530 {nm : String} : zD (m_L nm) 530 (.iaload) 1 531 := ⟨eg_L_264.2.2.2.2.2.2.1, rfl⟩
theorem d_L_531 {nm : String} : zD (m_L nm) 531 (.aload_n 0) 1 532 := ⟨eg_L_264.2.2.2.2.2.2.2, rfl⟩
theorem d_L_532 {nm : String} : zD (m_L nm) 532 (.iload_n 3) 1 533 := ⟨eg_L_272.1, rfl⟩
theorem d_L_533 {nm : String} : zD (m_L nm) 533 (.iconst 3) 1 534 := ⟨eg_L_272.2.1, rfl⟩
theorem d_L_534 {nm : String} : zD (m_L nm) 534 (.iadd) 1 535 := ⟨eg_L_272.2.2.1, rfl⟩
theorem d_L_535 {nm : String} : zD (m_L nm) 535 (.iaload) 1 536 := ⟨eg_L_272.2.2.2.1, rfl⟩
theorem d_L_536 {nm : String} : zD (m_L nm) 536 (.aload_n 0) 1 537 := ⟨eg_L_272.2.2.2.2.1, rfl⟩
theorem d_L_537 {nm : String} : zD (m_L nm) 537 (.iload_n 3) 1 538 := ⟨eg_L_272.2.2.2.2.2.1, rfl⟩
theorem d_L_538 {nm : String} : zD (m_L nm) 538 (.iconst 4) 1 539 := ⟨eg_L_272.2.2.2.2.2.2.1, rfl⟩
theorem d_L_539 {nm : String} : zD (m_L nm) 539 (.iadd) 1 540 := ⟨eg_L_272.2.2.2.2.2.2.2, rfl⟩
theorem d_L_540 {nm : String} : zD (m_L nm) 540 (.iaload) 1 541 := ⟨eg_L_280.1, rfl⟩
theorem d_L_541 {nm : String} : zD (m_L nm) 541 (.invokevirtual 76) 3 544 := ⟨eg_L_280.2.1, rfl⟩
theorem d_L_544 {nm : String} : zD (m_L nm) 544 (.pop) 1 545 := ⟨eg_L_280.2.2.1, rfl⟩
theorem d_L_545 {nm : String} : zDj (m_L nm) 545 (.goto) 548 1177 := ⟨632, eg_L_280.2.2.2.1, rfl, by decide⟩
theorem d_L_548 {nm : String} : zD (m_L nm) 548 (.aload_n 1) 1 549 := ⟨eg_L_280.2.2.2.2.1, rfl⟩
theorem d_L_549 {nm : String} : zD (m_L nm) 549 (.aload_n 0) 1 550 := ⟨eg_L_280.2.2.2.2.2.1, rfl⟩
theorem d_L_550 {nm : String} : zD (m_L nm) 550 (.iload_n 3) 1 551 := ⟨eg_L_280.2.2.2.2.2.2.1, rfl⟩
theorem d_L_551 {nm : String} : zD (m_L nm) 551 (.iconst 1) 1 552 := ⟨eg_L_280.2.2.2.2.2.2.2, rfl⟩
theorem d_L_552 {nm : String} : zD (m_L nm) 552 (.iadd) 1 553 := ⟨eg_L_288.1, rfl⟩
theorem d_L_553 {nm : String} : zD (m_L nm) 553 (.iaload) 1 554 := ⟨eg_L_288.2.1, rfl⟩
theorem d_L_554 {nm : String} : zD (m_L nm) 554 (.aload_n 0) 1 555 := ⟨eg_L_288.2.2.1, rfl⟩
theorem d_L_555 {nm : String} : zD (m_L nm) 555 (.iload_n 3) 1 556 := ⟨eg_L_288.2.2.2.1, rfl⟩
theorem d_L_556 {nm : String} : zD (m_L nm) 556 (.iconst 2) 1 557 := ⟨eg_L_288.2.2.2.2.1, rfl⟩
theorem d_L_557 {nm : String} : zD (m_L nm) 557 (.iadd) 1 558 := ⟨eg_L_288.2.2.2.2.2.1, rfl⟩
theorem d_L_558 {nm : String} : zD (m_L nm) 558 (.iaload) 1 559 := ⟨eg_L_288.2.2.2.2.2.2.1, rfl⟩
theorem d_L_559 {nm : String} : zD (m_L nm) 559 (.aload_n 0) 1 560 := ⟨eg_L_288.2.2.2.2.2.2.2, rfl⟩
theorem d_L_560 {nm : String} : zD (m_L nm) 560 (.iload_n 3) 1 561 := ⟨eg_L_296.1, rfl⟩
theorem d_L_561 {nm : String} : zD (m_L nm) 561 (.iconst 3) 1 562 := ⟨eg_L_296.2.1, rfl⟩
theorem d_L_562 {nm : String} : zD (m_L nm) 562 (.iadd) 1 563 := ⟨eg_L_296.2.2.1, rfl⟩
theorem d_L_563 {nm : String} : zD (m_L nm) 563 (.iaload) 1 564 := ⟨eg_L_296.2.2.2.1, rfl⟩
theorem d_L_564 {nm : String} : zD (m_L nm) 564 (.invokevirtual 77) 3 567 := ⟨eg_L_296.2.2.2.2.1, rfl⟩
theorem d_L_567 {nm : String} : zD (m_L nm) 567 (.pop) 1 568 := ⟨eg_L_296.2.2.2.2.2.1, rfl⟩
theorem d_L_568 {nm : String} : zD (m_L nm) 568 (.aload_n 2) 1 569 := ⟨eg_L_296.2.2.2.2.2.2.1, rfl⟩
theorem d_L_569 {nm : String} : zD (m_L nm) 569 (.aload_n 0) 1 570 := ⟨eg_L_296.2.2.2.2.2.2.2, rfl⟩
theorem d_L_570 {nm : String} : zD (m_L nm) 570 (.iload_n 3) 1 571 := ⟨eg_L_304.1, rfl⟩
theorem d_L_571 {nm : String} : zD (m_L nm) 571 (.iconst 1) 1 572 := ⟨eg_L_304.2.1, rfl⟩
theorem d_L_572 {nm : String} : zD (m_L nm) 572 (.iadd) 1 573 := ⟨eg_L_304.2.2.1, rfl⟩
theorem d_L_573 {nm : String} : zD (m_L nm) 573 (.iaload) 1 574 := ⟨eg_L_304.2.2.2.1, rfl⟩
theorem d_L_574 {nm : String} : zD (m_L nm) 574 (.aload_n 0) 1 575 := ⟨eg_L_304.2.2.2.2.1, rfl⟩
theorem d_L_575 {nm : String} : zD (m_L nm) 575 (.iload_n 3) 1 576 := ⟨eg_L_304.2.2.2.2.2.1, rfl⟩
theorem d_L_576 {nm : String} : zD (m_L nm) 576 (.iconst 2) 1 577 := ⟨eg_L_304.2.2.2.2.2.2.1, rfl⟩
theorem d_L_577 {nm : String} : zD (m_L nm) 577 (.iadd) 1 578 := ⟨eg_L_304.2.2.2.2.2.2.2, rfl⟩
theorem d_L_578 {nm : String} : zD (m_L nm) 578 (.iaload) 1 579 := ⟨eg_L_312.1, rfl⟩
theorem d_L_579 {nm : String} : zD (m_L nm) 579 (.aload_n 0) 1 580 := ⟨eg_L_312.2.1, rfl⟩
theorem d_L_580 {nm : String} : zD (m_L nm) 580 (.iload_n 3) 1 581 := ⟨eg_L_312.2.2.1, rfl⟩
theorem d_L_581 {nm : String} : zD (m_L nm) 581 (.iconst 3) 1 582 := ⟨eg_L_312.2.2.2.1, rfl⟩
theorem d_L_582 {nm : String} : zD (m_L nm) 582 (.iadd) 1 583 := ⟨eg_L_312.2.2.2.2.1, rfl⟩
theorem d_L_583 {nm : String} : zD (m_L nm) 583 (.iaload) 1 584 := ⟨eg_L_312.2.2.2.2.2.1, rfl⟩
theorem d_L_584 {nm : String} : zD (m_L nm) 584 (.invokevirtual 81) 3 587 := ⟨eg_L_312.2.2.2.2.2.2.1, rfl⟩
theorem d_L_587 {nm : String} : zD (m_L nm) 587 (.pop) 1 588 := ⟨eg_L_312.2.2.2.2.2.2.2, rfl⟩
theorem d_L_588 {nm : String} : zDj (m_L nm) 588 (.goto) 591 1177 := ⟨589, eg_L_320.1, rfl, by decide⟩
theorem d_L_591 {nm : String} : zD (m_L nm) 591 (.aload_n 1) 1 592 := ⟨eg_L_320.2.1, rfl⟩
theorem d_L_592 {nm : String} : zD (m_L nm) 592 (.aload_n 0) 1 593 := ⟨eg_L_320.2.2.1, rfl⟩
theorem d_L_593 {nm : String} : zD (m_L nm) 593 (.iload_n 3) 1 594 := ⟨eg_L_320.2.2.2.1, rfl⟩
theorem d_L_594 {nm : String} : zD (m_L nm) 594 (.iconst 1) 1 595 := ⟨eg_L_320.2.2.2.2.1, rfl⟩
theorem d_L_595 {nm : String} : zD (m_L nm) 595 (.iadd) 1 596 := ⟨eg_L_320.2.2.2.2.2.1, rfl⟩
theorem d_L_596 {nm : String} : zD (m_L nm) 596 (.iaload) 1 597 := ⟨eg_L_320.2.2.2.2.2.2.1, rfl⟩
theorem d_L_597 {nm : String} : zD (m_L nm) 597 (.invokevirtual 82) 3 600 := ⟨eg_L_320.2.2.2.2.2.2.2, rfl⟩
theorem d_L_600 {nm : String} : zD (m_L nm) 600 (.pop) 1 601 := ⟨eg_L_328.1, rfl⟩
theorem d_L_601 {nm : String} : zD (m_L nm) 601 (.aload_n 2) 1 602 := ⟨eg_L_328.2.1, rfl⟩
theorem d_L_602 {nm : String} : zD (m_L nm) 602 (.aload_n 0) 1 603 := ⟨eg_L_328.2.2.1, rfl⟩
theorem d_L_603 {nm : String} : zD (m_L nm) 603 (.iload_n 3) 1 604 := ⟨eg_L_328.2.2.2.1, rfl⟩
theorem d_L_604 {nm : String} : zD (m_L nm) 604 (.iconst 1) 1 605 := ⟨eg_L_328.2.2.2.2.1, rfl⟩
theorem d_L_605 {nm : String} : zD (m_L nm) 605 (.iadd) 1 606 := ⟨eg_L_328.2.2.2.2.2.1, rfl⟩
theorem d_L_606 {nm : String} : zD (m_L nm) 606 (.iaload) 1 607 := ⟨eg_L_328.2.2.2.2.2.2.1, rfl⟩
theorem d_L_607 {nm : String} : zD (m_L nm) 607 (.invokevirtual 85) 3 610 := ⟨eg_L_328.2.2.2.2.2.2.2, rfl⟩
theorem d_L_610 {nm : String} : zD (m_L nm) 610 (.pop) 1 611 := ⟨eg_L_336.1, rfl⟩
theorem d_L_611 {nm : String} : zDj (m_L nm) 611 (.goto) 614 1177 := ⟨566, eg_L_336.2.1, rfl, by decide⟩
theorem d_L_614 {nm : String} : zD (m_L nm) 614 (.aload_n 1) 1 615 := ⟨eg_L_336.2.2.1, rfl⟩
theorem d_L_615 {nm : String} : zD (m_L nm) 615 (.aload_n 0) 1 616 := ⟨eg_L_336.2.2.2.1, rfl⟩
theorem d_L_616 {nm : String} : zD (m_L nm) 616 (.iload_n 3) 1 617 := ⟨eg_L_336.2.2.2.2.1, rfl⟩
theorem d_L_617 {nm : String} : zD (m_L nm) 617 (.iconst 1) 1 618 := ⟨eg_L_336.2.2.2.2.2.1, rfl⟩
theorem d_L_618 {nm : String} : zD (m_L nm) 618 (.iadd) 1 619 := ⟨eg_L_336.2.2.2.2.2.2.1, rfl⟩
theorem d_L_619 {nm : String} : zD (m_L nm) 619 (.iaload) 1 620 := ⟨eg_L_336.2.2.2.2.2.2.2, rfl⟩
theorem d_L_620 {nm : String} : zD (m_L nm) 620 (.invokevirtual 86) 3 623 := ⟨eg_L_344.1, rfl⟩
theorem d_L_623 {nm : String} : zD (m_L nm) 623 (.pop) 1 624 := ⟨eg_L_344.2.1, rfl⟩
theorem d_L_624 {nm : String} : zD (m_L nm) 624 (.aload_n 2) 1 625 := ⟨eg_L_344.2.2.1, rfl⟩
theorem d_L_625 {nm : String} : zD (m_L nm) 625 (.aload_n 0) 1 626 := ⟨eg_L_344.2.2.2.1, rfl⟩
theorem d_L_626 {nm : String} : zD (m_L nm) 626 (.iload_n 3) 1 627 := ⟨eg_L_344.2.2.2.2.1, rfl⟩
theorem d_L_627 {nm : String} : zD (m_L nm) 627 (.iconst 1) 1 628 := ⟨eg_L_344.2.2.2.2.2.1, rfl⟩
theorem d_L_628 {nm : String} : zD (m_L nm) 628 (.iadd) 1 629 := ⟨eg_L_344.2.2.2.2.2.2.1, rfl⟩
theorem d_L_629 {nm : String} : zD (m_L nm) 629 (.iaload) 1 630 := ⟨eg_L_344.2.2.2.2.2.2.2, rfl⟩
theorem d_L_630 {nm : String} : zD (m_L nm) 630 (.invokevirtual 89) 3 633 := ⟨eg_L_352.1, rfl⟩
theorem d_L_633 {nm : String} : zD (m_L nm) 633 (.pop) 1 634 := ⟨eg_L_352.2.1, rfl⟩
theorem d_L_634 {nm : String} : zDj (m_L nm) 634 (.goto) 637 1177 := ⟨543, eg_L_352.2.2.1, rfl, by decide⟩
theorem d_L_637 {nm : String} : zD (m_L nm) 637 (.aload_n 1) 1 638 := ⟨eg_L_352.2.2.2.1, rfl⟩
theorem d_L_638 {nm : String} : zD (m_L nm) 638 (.aload_n 0) 1 639 := ⟨eg_L_352.2.2.2.2.1, rfl⟩
theorem d_L_639 {nm : String} : zD (m_L nm) 639 (.iload_n 3) 1 640 := ⟨eg_L_352.2.2.2.2.2.1, rfl⟩
theorem d_L_640 {nm : String} : zD (m_L nm) 640 (.iconst 1) 1 641 := ⟨eg_L_352.2.2.2.2.2.2.1, rfl⟩
theorem d_L_641 {nm : String} : zD (m_L nm) 641 (.iadd) 1 642 := ⟨eg_L_352.2.2.2.2.2.2.2, rfl⟩
theorem d_L_642 {nm : String} : zD (m_L nm) 642 (.iaload) 1 643 := ⟨eg_L_360.1, rfl⟩
theorem d_L_643 {nm : String} : zD (m_L nm) 643 (.invokevirtual 90) 3 646 := ⟨eg_L_360.2.1, rfl⟩
theorem d_L_646 {nm : String} : zD (m_L nm) 646 (.pop) 1 647 := ⟨eg_L_360.2.2.1, rfl⟩
theorem d_L_647 {nm : String} : zD (m_L nm) 647 (.aload_n 2) 1 648 := ⟨eg_L_360.2.2.2.1, rfl⟩
theorem d_L_648 {nm : String} : zD (m_L nm) 648 (.aload_n 0) 1 649 := ⟨eg_L_360.2.2.2.2.1, rfl⟩
theorem d_L_649 {nm : String} : zD (m_L nm) 649 (.iload_n 3) 1 650 := ⟨eg_L_360.2.2.2.2.2.1, rfl⟩
theorem d_L_650 {nm : String} : zD (m_L nm) 650 (.iconst 1) 1 651 := ⟨eg_L_360.2.2.2.2.2.2.1, rfl⟩
theorem d_L_651 {nm : String} : zD (m_L nm) 651 (.iadd) 1 652 := ⟨eg_L_360.2.2.2.2.2.2.2, rfl⟩
theorem d_L_652 {nm : String} : zD (m_L nm) 652 (.iaload) 1 653 := ⟨eg_L_368.1, rfl⟩
theorem d_L_653 {nm : String} : zD (m_L nm) 653 (.invokevirtual 93) 3 656 := ⟨eg_L_368.2.1, rfl⟩
theorem d_L_656 {nm : String} : zD (m_L nm) 656 (.pop) 1 657 := ⟨eg_L_368.2.2.1, rfl⟩
theorem d_L_657 {nm : String} : zDj (m_L nm) 657 (.goto) 660 1177 := ⟨520, eg_L_368.2.2.2.1, rfl, by decide⟩
theorem d_L_660 {nm : String} : zD (m_L nm) 660 (.aload_n 1) 1 661 := ⟨eg_L_368.2.2.2.2.1, rfl⟩
theorem d_L_661 {nm : String} : zD (m_L nm) 661 (.aload_n 0) 1 662 := ⟨eg_L_368.2.2.2.2.2.1, rfl⟩
theorem d_L_662 {nm : String} : zD (m_L nm) 662 (.iload_n 3) 1 663 := ⟨eg_L_368.2.2.2.2.2.2.1, rfl⟩
theorem d_L_663 {nm : String} : zD (m_L nm) 663 (.iconst 1) 1 664 := ⟨eg_L_368.2.2.2.2.2.2.2, rfl⟩
theorem d_L_664 {nm : String} : zD (m_L nm) 664 (.iadd) 1 665 := ⟨eg_L_376.1, rfl⟩
theorem d_L_665 {nm : String} : zD (m_L nm) 665 (.iaload) 1 666 := ⟨eg_L_376.2.1, rfl⟩
theorem d_L_666 {nm : String} : zD (m_L nm) 666 (.invokevirtual 94) 3 669 := ⟨eg_L_376.2.2.1, rfl⟩
theorem d_L_669 {nm : String} : zD (m_L nm) 669 (.pop) 1 670 := ⟨eg_L_376.2.2.2.1, rfl⟩
theorem d_L_670 {nm : String} : zD (m_L nm) 670 (.aload_n 2) 1 671 := ⟨eg_L_376.2.2.2.2.1, rfl⟩
theorem d_L_671 {nm : String} : zD (m_L nm) 671 (.aload_n 0) 1 672 := ⟨eg_L_376.2.2.2.2.2.1, rfl⟩
theorem d_L_672 {nm : String} : zD (m_L nm) 672 (.iload_n 3) 1 673 := ⟨eg_L_376.2.2.2.2.2.2.1, rfl⟩
theorem d_L_673 {nm : String} : zD (m_L nm) 673 (.iconst 1) 1 674 := ⟨eg_L_376.2.2.2.2.2.2.2, rfl⟩
theorem d_L_674 {nm : String} : zD (m_L nm) 674 (.iadd) 1 675 := ⟨eg_L_384.1, rfl⟩
theorem d_L_675 {nm : String} : zD (m_L nm) 675 (.iaload) 1 676 := ⟨eg_L_384.2.1, rfl⟩
theorem d_L_676 {nm : String} : zD (m_L nm) 676 (.invokevirtual 97) 3 679 := ⟨eg_L_384.2.2.1, rfl⟩
theorem d_L_679 {nm : String} : zD (m_L nm) 679 (.pop) 1 680 := ⟨eg_L_384.2.2.2.1, rfl⟩
theorem d_L_680 {nm : String} : zDj (m_L nm) 680 (.goto) 683 1177 := ⟨497, eg_L_384.2.2.2.2.1, rfl, by decide⟩
theorem d_L_683 {nm : String} : zD (m_L nm) 683 (.aload_n 1) 1 684 := ⟨eg_L_384.2.2.2.2.2.1, rfl⟩
theorem d_L_684 {nm : String} : zD (m_L nm) 684 (.invokevirtual 98) 3 687 := ⟨eg_L_384.2.2.2.2.2.2.1, rfl⟩
theorem d_L_687 {nm : String} : zD (m_L nm) 687 (.pop) 1 688 := ⟨eg_L_384.2.2.2.2.2.2.2, rfl⟩
theorem d_L_688 {nm : String} : zD (m_L nm) 688 (.aload_n 2) 1 689 := ⟨eg_L_392.1, rfl⟩
theorem d_L_689 {nm : String} : zD (m_L nm) 689 (.invokevirtual 101) 3 692 := ⟨eg_L_392.2.1, rfl⟩
theorem d_L_692 {nm : String} : zD (m_L nm) 692 (.pop) 1 693 := ⟨eg_L_392.2.2.1, rfl⟩
theorem d_L_693 {nm : String} : zDj (m_L nm) 693 (.goto) 696 1177 := ⟨484, eg_L_392.2.2.2.1, rfl, by decide⟩
theorem d_L_696 {nm : String} : zD (m_L nm) 696 (.aload_n 1) 1 697 := ⟨eg_L_392.2.2.2.2.1, rfl⟩
theorem d_L_697 {nm : String} : zD (m_L nm) 697 (.aload_n 0) 1 698 := ⟨eg_L_392.2.2.2.2.2.1, rfl⟩
theorem d_L_698 {nm : String} : zD (m_L nm) 698 (.iload_n 3) 1 699 := ⟨eg_L_392.2.2.2.2.2.2.1, rfl⟩
theorem d_L_699 {nm : String} : zD (m_L nm) 699 (.iconst 1) 1 700 := ⟨eg_L_392.2.2.2.2.2.2.2, rfl⟩
theorem d_L_700 {nm : String} : zD (m_L nm) 700 (.iadd) 1 701 := ⟨eg_L_400.1, rfl⟩
theorem d_L_701 {nm : String} : zD (m_L nm) 701 (.iaload) 1 702 := ⟨eg_L_400.2.1, rfl⟩
theorem d_L_702 {nm : String} : zD (m_L nm) 702 (.invokevirtual 102) 3 705 := ⟨eg_L_400.2.2.1, rfl⟩
theorem d_L_705 {nm : String} : zD (m_L nm) 705 (.pop) 1 706 := ⟨eg_L_400.2.2.2.1, rfl⟩
theorem d_L_706 {nm : String} : zD (m_L nm) 706 (.aload_n 2) 1 707 := ⟨eg_L_400.2.2.2.2.1, rfl⟩
theorem d_L_707 {nm : String} : zD (m_L nm) 707 (.aload_n 0) 1 708 := ⟨eg_L_400.2.2.2.2.2.1, rfl⟩
theorem d_L_708 {nm : String} : zD (m_L nm) 708 (.iload_n 3) 1 709 := ⟨eg_L_400.2.2.2.2.2.2.1, rfl⟩
theorem d_L_709 {nm : String} : zD (m_L nm) 709 (.iconst 1) 1 710 := ⟨eg_L_400.2.2.2.2.2.2.2, rfl⟩
theorem d_L_710 {nm : String} : zD (m_L nm) 710 (.iadd) 1 711 := ⟨eg_L_408.1, rfl⟩
theorem d_L_711 {nm : String} : zD (m_L nm) 711 (.iaload) 1 712 := ⟨eg_L_408.2.1, rfl⟩
theorem d_L_712 {nm : String} : zD (m_L nm) 712 (.invokevirtual 105) 3 715 := ⟨eg_L_408.2.2.1, rfl⟩
theorem d_L_715 {nm : String} : zD (m_L nm) 715 (.pop) 1 716 := ⟨eg_L_408.2.2.2.1, rfl⟩
theorem d_L_716 {nm : String} : zDj (m_L nm) 716 (.goto) 719 1177 := ⟨461, eg_L_408.2.2.2.2.1, rfl, by decide⟩
theorem d_L_719 {nm : String} : zD (m_L nm) 719 (.aload_n 1) 1 720 := ⟨eg_L_408.2.2.2.2.2.1, rfl⟩
theorem d_L_720 {nm : String} : zD (m_L nm) 720 (.aload_n 0) 1 721 := ⟨eg_L_408.2.2.2.2.2.2.1, rfl⟩
theorem d_L_721 {nm : String} : zD (m_L nm) 721 (.iload_n 3) 1 722 := ⟨eg_L_408.2.2.2.2.2.2.2, rfl⟩
theorem d_L_722 {nm : String} : zD (m_L nm) 722 (.iconst 1) 1 723 := ⟨eg_L_416.1, rfl⟩
theorem d_L_723 {nm : String} : zD (m_L nm) 723 (.iadd) 1 724 := ⟨eg_L_416.2.1, rfl⟩
theorem d_L_724 {nm : String} : zD (m_L nm) 724 (.iaload) 1 725 := ⟨eg_L_416.2.2.1, rfl⟩
theorem d_L_725 {nm : String} : zD (m_L nm) 725 (.aload_n 0) 1 726 := ⟨eg_L_416.2.2.2.1, rfl⟩
theorem d_L_726 {nm : String} : zD (m_L nm) 726 (.iload_n 3) 1 727 := ⟨eg_L_416.2.2.2.2.1, rfl⟩
theorem d_L_727 {nm : String} : zD (m_L nm) 727 (.iconst 2) 1 728 := ⟨eg_L_416.2.2.2.2.2.1, rfl⟩
theorem d_L_728 {nm : String} : zD (m_L nm) 728 (.iadd) 1 729 := ⟨eg_L_416.2.2.2.2.2.2.1, rfl⟩
theorem d_L_729 {nm : String} : zD (m_L nm) 729 (.iaload) 1 730 := ⟨eg_L_416.2.2.2.2.2.2.2, rfl⟩
theorem d_L_730 {nm : String} : zD (m_L nm) 730 (.invokevirtual 106) 3 733 := ⟨eg_L_424.1, rfl⟩
theorem d_L_733 {nm : String} : zD (m_L nm) 733 (.pop2) 1 734 := ⟨eg_L_424.2.1, rfl⟩
theorem d_L_734 {nm : String} : zD (m_L nm) 734 (.aload_n 2) 1 735 := ⟨eg_L_424.2.2.1, rfl⟩
theorem d_L_735 {nm : String} : zD (m_L nm) 735 (.aload_n 0) 1 736 := ⟨eg_L_424.2.2.2.1, rfl⟩
theorem d_L_736 {nm : String} : zD (m_L nm) 736 (.iload_n 3) 1 737 := ⟨eg_L_424.2.2.2.2.1, rfl⟩
theorem d_L_737 {nm : String} : zD (m_L nm) 737 (.iconst 1) 1 738 := ⟨eg_L_424.2.2.2.2.2.1, rfl⟩
theorem d_L_738 {nm : String} : zD (m_L nm) 738 (.iadd) 1 739 := ⟨eg_L_424.2.2.2.2.2.2.1, rfl⟩
theorem d_L_739 {nm : String} : zD (m_L nm) 739 (.iaload) 1 740 := ⟨eg_L_424.2.2.2.2.2.2.2, rfl⟩
theorem d_L_740 {nm : String} : zD (m_L nm) 740 (.aload_n 0) 1 741 := ⟨eg_L_432.1, rfl⟩
theorem d_L_741 {nm : String} : zD (m_L nm) 741 (.iload_n 3) 1 742 := ⟨eg_L_432.2.1, rfl⟩
theorem d_L_742 {nm : String} : zD (m_L nm) 742 (.iconst 2) 1 743 := ⟨eg_L_432.2.2.1, rfl⟩
theorem d_L_743 {nm : String} : zD (m_L nm) 743 (.iadd) 1 744 := ⟨eg_L_432.2.2.2.1, rfl⟩
theorem d_L_744 {nm : String} : zD (m_L nm) 744 (.iaload) 1 745 := ⟨eg_L_432.2.2.2.2.1, rfl⟩
theorem d_L_745 {nm : String} : zD (m_L nm) 745 (.invokevirtual 110) 3 748 := ⟨eg_L_432.2.2.2.2.2.1, rfl⟩
theorem d_L_748 {nm : String} : zD (m_L nm) 748 (.pop2) 1 749 := ⟨eg_L_432.2.2.2.2.2.2.1, rfl⟩
theorem d_L_749 {nm : String} : zDj (m_L nm) 749 (.goto) 752 1177 := ⟨428, eg_L_432.2.2.2.2.2.2.2, rfl, by decide⟩
theorem d_L_752 {nm : String} : zD (m_L nm) 752 (.aload_n 1) 1 753 := ⟨eg_L_440.1, rfl⟩
theorem d_L_753 {nm : String} : zD (m_L nm) 753 (.aload_n 0) 1 754 := ⟨eg_L_440.2.1, rfl⟩
theorem d_L_754 {nm : String} : zD (m_L nm) 754 (.iload_n 3) 1 755 := ⟨eg_L_440.2.2.1, rfl⟩
theorem d_L_755 {nm : String} : zD (m_L nm) 755 (.iconst 1) 1 756 := ⟨eg_L_440.2.2.2.1, rfl⟩
theorem d_L_756 {nm : String} : zD (m_L nm) 756 (.iadd) 1 757 := ⟨eg_L_440.2.2.2.2.1, rfl⟩
theorem d_L_757 {nm : String} : zD (m_L nm) 757 (.iaload) 1 758 := ⟨eg_L_440.2.2.2.2.2.1, rfl⟩
theorem d_L_758 {nm : String} : zD (m_L nm) 758 (.invokevirtual 111) 3 761 := ⟨eg_L_440.2.2.2.2.2.2.1, rfl⟩
theorem d_L_761 {nm : String} : zD (m_L nm) 761 (.pop) 1 762 := ⟨eg_L_440.2.2.2.2.2.2.2, rfl⟩
theorem d_L_762 {nm : String} : zD (m_L nm) 762 (.aload_n 2) 1 763 := ⟨eg_L_448.1, rfl⟩
theorem d_L_763 {nm : String} : zD (m_L nm) 763 (.aload_n 0) 1 764 := ⟨eg_L_448.2.1, rfl⟩
theorem d_L_764 {nm : String} : zD (m_L nm) 764 (.iload_n 3) 1 765 := ⟨eg_L_448.2.2.1, rfl⟩
theorem d_L_765 {nm : String} : zD (m_L nm) 765 (.iconst 1) 1 766 := ⟨eg_L_448.2.2.2.1, rfl⟩
theorem d_L_766 {nm : String} : zD (m_L nm) 766 (.iadd) 1 767 := ⟨eg_L_448.2.2.2.2.1, rfl⟩
theorem d_L_767 {nm : String} : zD (m_L nm) 767 (.iaload) 1 768 := ⟨eg_L_448.2.2.2.2.2.1, rfl⟩
theorem d_L_768 {nm : String} : zD (m_L nm) 768 (.invokevirtual 114) 3 771 := ⟨eg_L_448.2.2.2.2.2.2.1, rfl⟩
theorem d_L_771 {nm : String} : zD (m_L nm) 771 (.pop) 1 772 := ⟨eg_L_448.2.2.2.2.2.2.2, rfl⟩
theorem d_L_772 {nm : String} : zDj (m_L nm) 772 (.goto) 775 1177 := ⟨405, eg_L_456.1, rfl, by decide⟩
theorem d_L_775 {nm : String} : zD (m_L nm) 775 (.aload_n 1) 1 776 := ⟨eg_L_456.2.1, rfl⟩
theorem d_L_776 {nm : String} : zD (m_L nm) 776 (.aload_n 0) 1 777 := ⟨eg_L_456.2.2.1, rfl⟩
theorem d_L_777 {nm : String} : zD (m_L nm) 777 (.iload_n 3) 1 778 := ⟨eg_L_456.2.2.2.1, rfl⟩
theorem d_L_778 {nm : String} : zD (m_L nm) 778 (.iconst 1) 1 779 := ⟨eg_L_456.2.2.2.2.1, rfl⟩
theorem d_L_779 {nm : String} : zD (m_L nm) 779 (.iadd) 1 780 := ⟨eg_L_456.2.2.2.2.2.1, rfl⟩
theorem d_L_780 {nm : String} : zD (m_L nm) 780 (.iaload) 1 781 := ⟨eg_L_456.2.2.2.2.2.2.1, rfl⟩
theorem d_L_781 {nm : String} : zD (m_L nm) 781 (.invokevirtual 115) 3 784 := ⟨eg_L_456.2.2.2.2.2.2.2, rfl⟩
theorem d_L_784 {nm : String} : zD (m_L nm) 784 (.pop) 1 785 := ⟨eg_L_464.1, rfl⟩
theorem d_L_785 {nm : String} : zD (m_L nm) 785 (.aload_n 2) 1 786 := ⟨eg_L_464.2.1, rfl⟩
theorem d_L_786 {nm : String} : zD (m_L nm) 786 (.aload_n 0) 1 787 := ⟨eg_L_464.2.2.1, rfl⟩
theorem d_L_787 {nm : String} : zD (m_L nm) 787 (.iload_n 3) 1 788 := ⟨eg_L_464.2.2.2.1, rfl⟩
theorem d_L_788 {nm : String} : zD (m_L nm) 788 (.iconst 1) 1 789 := ⟨eg_L_464.2.2.2.2.1, rfl⟩
theorem d_L_789 {nm : String} : zD (m_L nm) 789 (.iadd) 1 790 := ⟨eg_L_464.2.2.2.2.2.1, rfl⟩
theorem d_L_790 {nm : String} : zD (m_L nm) 790 (.iaload) 1 791 := ⟨eg_L_464.2.2.2.2.2.2.1, rfl⟩
theorem d_L_791 {nm : String} : zD (m_L nm) 791 (.invokevirtual 118) 3 794 := ⟨eg_L_464.2.2.2.2.2.2.2, rfl⟩
theorem d_L_794 {nm : String} : zD (m_L nm) 794 (.pop) 1 795 := ⟨eg_L_472.1, rfl⟩
theorem d_L_795 {nm : String} : zDj (m_L nm) 795 (.goto) 798 1177 := ⟨382, eg_L_472.2.1, rfl, by decide⟩
theorem d_L_798 {nm : String} : zD (m_L nm) 798 (.aload_n 1) 1 799 := ⟨eg_L_472.2.2.1, rfl⟩
theorem d_L_799 {nm : String} : zD (m_L nm) 799 (.invokevirtual 119) 3 802 := ⟨eg_L_472.2.2.2.1, rfl⟩
theorem d_L_802 {nm : String} : zD (m_L nm) 802 (.pop) 1 803 := ⟨eg_L_472.2.2.2.2.1, rfl⟩
theorem d_L_803 {nm : String} : zD (m_L nm) 803 (.aload_n 2) 1 804 := ⟨eg_L_472.2.2.2.2.2.1, rfl⟩
theorem d_L_804 {nm : String} : zD (m_L nm) 804 (.invokevirtual 122) 3 807 := ⟨eg_L_472.2.2.2.2.2.2.1, rfl⟩
theorem d_L_807 {nm : String} : zD (m_L nm) 807 (.pop) 1 808 := ⟨eg_L_472.2.2.2.2.2.2.2, rfl⟩
theorem d_L_808 {nm : String} : zDj (m_L nm) 808 (.goto) 811 1177 := ⟨369, eg_L_480.1, rfl, by decide⟩
theorem d_L_811 {nm : String} : zD (m_L nm) 811 (.aload_n 1) 1 812 := ⟨eg_L_480.2.1, rfl⟩
theorem d_L_812 {nm : String} : zD (m_L nm) 812 (.aload_n 0) 1 813 := ⟨eg_L_480.2.2.1, rfl⟩
theorem d_L_813 {nm : String} : zD (m_L nm) 813 (.iload_n 3) 1 814 := ⟨eg_L_480.2.2.2.1, rfl⟩
theorem d_L_814 {nm : String} : zD (m_L nm) 814 (.iconst 1) 1 815 := ⟨eg_L_480.2.2.2.2.1, rfl⟩
theorem d_L_815 {nm : String} : zD (m_L nm) 815 (.iadd) 1 816 := ⟨eg_L_480.2.2.2.2.2.1, rfl⟩
theorem d_L_816 {nm : String} : zD (m_L nm) 816 (.iaload) 1 817 := ⟨eg_L_480.2.2.2.2.2.2.1, rfl⟩
theorem d_L_817 {nm : String} : zD (m_L nm) 817 (.invokevirtual 123) 3 820 := ⟨eg_L_480.2.2.2.2.2.2.2, rfl⟩
theorem d_L_820 {nm : String} : zD (m_L nm) 820 (.pop) 1 821 := ⟨eg_L_488.1, rfl⟩
theorem d_L_821 {nm : String} : zD (m_L nm) 821 (.aload_n 2) 1 822 := ⟨eg_L_488.2.1, rfl⟩
theorem d_L_822 {nm : String} : zD (m_L nm) 822 (.aload_n 0) 1 823 := ⟨eg_L_488.2.2.1, rfl⟩
theorem d_L_823 {nm : String} : zD (m_L nm) 823 (.iload_n 3) 1 824 := ⟨eg_L_488.2.2.2.1, rfl⟩
theorem d_L_824 {nm : String} : zD (m_L nm) 824 (.iconst 1) 1 825 := ⟨eg_L_488.2.2.2.2.1, rfl⟩
theorem d_L_825 {nm : String} : zD (m_L nm) 825 (.iadd) 1 826 := ⟨eg_L_488.2.2.2.2.2.1, rfl⟩
theorem d_L_826 {nm : String} : zD (m_L nm) 826 (.iaload) 1 827 := ⟨eg_L_488.2.2.2.2.2.2.1, rfl⟩
theorem d_L_827 {nm : String} : zD (m_L nm) 827 (.invokevirtual 126) 3 830 := ⟨eg_L_488.2.2.2.2.2.2.2, rfl⟩
theorem d_L_830 {nm : String} : zD (m_L nm) 830 (.pop) 1 831 := ⟨eg_L_496.1, rfl⟩
theorem d_L_831 {nm : String} : zDj (m_L nm) 831 (.goto) 834 1177 := ⟨346, eg_L_496.2.1, rfl, by decide⟩
theorem d_L_834 {nm : String} : zD (m_L nm) 834 (.aload_n 1) 1 835 := ⟨eg_L_496.2.2.1, rfl⟩
theorem d_L_835 {nm : String} : zD (m_L nm) 835 (.aload_n 0) 1 836 := ⟨eg_L_496.2.2.2.1, rfl⟩
theorem d_L_836 {nm : String} : zD (m_L nm) 836 (.iload_n 3) 1 837 := ⟨eg_L_496.2.2.2.2.1, rfl⟩
theorem d_L_837 {nm : String} : zD (m_L nm) 837 (.iconst 1) 1 838 := ⟨eg_L_496.2.2.2.2.2.1, rfl⟩
theorem d_L_838 {nm : String} : zD (m_L nm) 838 (.iadd) 1 839 := ⟨eg_L_496.2.2.2.2.2.2.1, rfl⟩
theorem d_L_839 {nm : String} : zD (m_L nm) 839 (.iaload) 1 840 := ⟨eg_L_496.2.2.2.2.2.2.2, rfl⟩
theorem d_L_840 {nm : String} : zD (m_L nm) 840 (.invokevirtual 127) 3 843 := ⟨eg_L_504.1, rfl⟩
theorem d_L_843 {nm : String} : zD (m_L nm) 843 (.pop) 1 844 := ⟨eg_L_504.2.1, rfl⟩
theorem d_L_844 {nm : String} : zD (m_L nm) 844 (.aload_n 2) 1 845 := ⟨eg_L_504.2.2.1, rfl⟩
theorem d_L_845 {nm : String} : zD (m_L nm) 845 (.aload_n 0) 1 846 := ⟨eg_L_504.2.2.2.1, rfl⟩
theorem d_L_846 {nm : String} : zD (m_L nm) 846 (.iload_n 3) 1 847 := ⟨eg_L_504.2.2.2.2.1, rfl⟩
theorem d_L_847 {nm : String} : zD (m_L nm) 847 (.iconst 1) 1 848 := ⟨eg_L_504.2.2.2.2.2.1, rfl⟩
theorem d_L_848 {nm : String} : zD (m_L nm) 848 (.iadd) 1 849 := ⟨eg_L_504.2.2.2.2.2.2.1, rfl⟩
theorem d_L_849 {nm : String} : zD (m_L nm) 849 (.iaload) 1 850 := ⟨eg_L_504.2.2.2.2.2.2.2, rfl⟩
theorem d_L_850 {nm : String} : zD (m_L nm) 850 (.invokevirtual 130) 3 853 := ⟨eg_L_512.1, rfl⟩
theorem d_L_853 {nm : String} : zD (m_L nm) 853 (.pop) 1 854 := ⟨eg_L_512.2.1, rfl⟩
theorem d_L_854 {nm : String} : zDj (m_L nm) 854 (.goto) 857 1177 := ⟨323, eg_L_512.2.2.1, rfl, by decide⟩
theorem d_L_857 {nm : String} : zD (m_L nm) 857 (.aload_n 1) 1 858 := ⟨eg_L_512.2.2.2.1, rfl⟩
theorem d_L_858 {nm : String} : zD (m_L nm) 858 (.aload_n 0) 1 859 := ⟨eg_L_512.2.2.2.2.1, rfl⟩
theorem d_L_859 {nm : String} : zD (m_L nm) 859 (.iload_n 3) 1 860 := ⟨eg_L_512.2.2.2.2.2.1, rfl⟩
theorem d_L_860 {nm : String} : zD (m_L nm) 860 (.iconst 1) 1 861 := ⟨eg_L_512.2.2.2.2.2.2.1, rfl⟩
theorem d_L_861 {nm : String} : zD (m_L nm) 861 (.iadd) 1 862 := ⟨eg_L_512.2.2.2.2.2.2.2, rfl⟩
theorem d_L_862 {nm : String} : zD (m_L nm) 862 (.iaload) 1 863 := ⟨eg_L_520.1, rfl⟩
theorem d_L_863 {nm : String} : zD (m_L nm) 863 (.aload_n 0) 1 864 := ⟨eg_L_520.2.1, rfl⟩
theorem d_L_864 {nm : String} : zD (m_L nm) 864 (.iload_n 3) 1 865 := ⟨eg_L_520.2.2.1, rfl⟩
theorem d_L_865 {nm : String} : zD (m_L nm) 865 (.iconst 2) 1 866 := ⟨eg_L_520.2.2.2.1, rfl⟩
theorem d_L_866 {nm : String} : zD (m_L nm) 866 (.iadd) 1 867 := ⟨eg_L_520.2.2.2.2.1, rfl⟩
theorem d_L_867 {nm : String} : zD (m_L nm) 867 (.iaload) 1 868 := ⟨eg_L_520.2.2.2.2.2.1, rfl⟩
theorem d_L_868 {nm : String} : zD (m_L nm) 868 (.invokevirtual 131) 3 871 := ⟨eg_L_520.2.2.2.2.2.2.1, rfl⟩
theorem d_L_871 {nm : String} : zD (m_L nm) 871 (.pop) 1 872 := ⟨eg_L_520.2.2.2.2.2.2.2, rfl⟩
theorem d_L_872 {nm : String} : zD (m_L nm) 872 (.aload_n 2) 1 873 := ⟨eg_L_528.1, rfl⟩
theorem d_L_873 {nm : String} : zD (m_L nm) 873 (.aload_n 0) 1 874 := ⟨eg_L_528.2.1, rfl⟩
theorem d_L_874 {nm : String} : zD (m_L nm) 874 (.iload_n 3) 1 875 := ⟨eg_L_528.2.2.1, rfl⟩
theorem d_L_875 {nm : String} : zD (m_L nm) 875 (.iconst 1) 1 876 := ⟨eg_L_528.2.2.2.1, rfl⟩
theorem d_L_876 {nm : String} : zD (m_L nm) 876 (.iadd) 1 877 := ⟨eg_L_528.2.2.2.2.1, rfl⟩
theorem d_L_877 {nm : String} : zD (m_L nm) 877 (.iaload) 1 878 := ⟨eg_L_528.2.2.2.2.2.1, rfl⟩
theorem d_L_878 {nm : String} : zD (m_L nm) 878 (.aload_n 0) 1 879 := ⟨eg_L_528.2.2.2.2.2.2.1, rfl⟩
theorem d_L_879 {nm : String} : zD (m_L nm) 879 (.iload_n 3) 1 880 := ⟨eg_L_528.2.2.2.2.2.2.2, rfl⟩
theorem d_L_880 {nm : String} : zD (m_L nm) 880 (.iconst 2) 1 881 := ⟨eg_L_536.1, rfl⟩
theorem d_L_881 {nm : String} : zD (m_L nm) 881 (.iadd) 1 882 := ⟨eg_L_536.2.1, rfl⟩
theorem d_L_882 {nm : String} : zD (m_L nm) 882 (.iaload) 1 883 := ⟨eg_L_536.2.2.1, rfl⟩
theorem d_L_883 {nm : String} : zD (m_L nm) 883 (.invokevirtual 134) 3 886 := ⟨eg_L_536.2.2.2.1, rfl⟩
theorem d_L_886 {nm : String} : zD (m_L nm) 886 (.pop) 1 887 := ⟨eg_L_536.2.2.2.2.1, rfl⟩
theorem d_L_887 {nm : String} : zDj (m_L nm) 887 (.goto) 890 1177 := ⟨290, eg_L_536.2.2.2.2.2.1, rfl, by decide⟩
theorem d_L_890 {nm : String} : zD (m_L nm) 890 (.aload_n 1) 1 891 := ⟨eg_L_536.2.2.2.2.2.2.1, rfl⟩
theorem d_L_891 {nm : String} : zD (m_L nm) 891 (.aload_n 0) 1 892 := ⟨eg_L_536.2.2.2.2.2.2.2, rfl⟩
theorem d_L_892 {nm : String} : zD (m_L nm) 892 (.iload_n 3) 1 893 := ⟨eg_L_544.1, rfl⟩
theorem d_L_893 {nm : String} : zD (m_L nm) 893 (.iconst 1) 1 894 := ⟨eg_L_544.2.1, rfl⟩
theorem d_L_894 {nm : String} : zD (m_L nm) 894 (.iadd) 1 895 := ⟨eg_L_544.2.2.1, rfl⟩
theorem d_L_895 {nm : String} : zD (m_L nm) 895 (.iaload) 1 896 := ⟨eg_L_544.2.2.2.1, rfl⟩
theorem d_L_896 {nm : String} : zD (m_L nm) 896 (.invokevirtual 135) 3 899 := ⟨eg_L_544.2.2.2.2.1, rfl⟩
theorem d_L_899 {nm : String} : zD (m_L nm) 899 (.pop) 1 900 := ⟨eg_L_544.2.2.2.2.2.1, rfl⟩
theorem d_L_900 {nm : String} : zD (m_L nm) 900 (.aload_n 2) 1 901 := ⟨eg_L_544.2.2.2.2.2.2.1, rfl⟩
theorem d_L_901 {nm : String} : zD (m_L nm) 901 (.aload_n 0) 1 902 := ⟨eg_L_544.2.2.2.2.2.2.2, rfl⟩
theorem d_L_902 {nm : String} : zD (m_L nm) 902 (.iload_n 3) 1 903 := ⟨eg_L_552.1, rfl⟩
theorem d_L_903 {nm : String} : zD (m_L nm) 903 (.iconst 1) 1 904 := ⟨eg_L_552.2.1, rfl⟩
theorem d_L_904 {nm : String} : zD (m_L nm) 904 (.iadd) 1 905 := ⟨eg_L_552.2.2.1, rfl⟩
theorem d_L_905 {nm : String} : zD (m_L nm) 905 (.iaload) 1 906 := ⟨eg_L_552.2.2.2.1, rfl⟩
theorem d_L_906 {nm : String} : zD (m_L nm) 906 (.invokevirtual 138) 3 909 := ⟨eg_L_552.2.2.2.2.1, rfl⟩
theorem d_L_909 {nm : String} : zD (m_L nm) 909 (.pop) 1 910 := ⟨eg_L_552.2.2.2.2.2.1, rfl⟩
theorem d_L_910 {nm : String} : zDj (m_L nm) 910 (.goto) 913 1177 := ⟨267, eg_L_552.2.2.2.2.2.2.1, rfl, by decide⟩
theorem d_L_913 {nm : String} : zD (m_L nm) 913 (.aload_n 1) 1 914 := ⟨eg_L_552.2.2.2.2.2.2.2, rfl⟩
theorem d_L_914 {nm : String} : zD (m_L nm) 914 (.aload_n 0) 1 915 := ⟨eg_L_560.1, rfl⟩
theorem d_L_915 {nm : String} : zD (m_L nm) 915 (.iload_n 3) 1 916 := ⟨eg_L_560.2.1, rfl⟩
theorem d_L_916 {nm : String} : zD (m_L nm) 916 (.iconst 1) 1 917 := ⟨eg_L_560.2.2.1, rfl⟩
theorem d_L_917 {nm : String} : zD (m_L nm) 917 (.iadd) 1 918 := ⟨eg_L_560.2.2.2.1, rfl⟩
theorem d_L_918 {nm : String} : zD (m_L nm) 918 (.iaload) 1 919 := ⟨eg_L_560.2.2.2.2.1, rfl⟩
theorem d_L_919 {nm : String} : zD (m_L nm) 919 (.aload_n 0) 1 920 := ⟨eg_L_560.2.2.2.2.2.1, rfl⟩
theorem d_L_920 {nm : String} : zD (m_L nm) 920 (.iload_n 3) 1 921 := ⟨eg_L_560.2.2.2.2.2.2.1, rfl⟩
theorem d_L_921 {nm : String} : zD (m_L nm) 921 (.iconst 2) 1 922 := ⟨eg_L_560.2.2.2.2.2.2.2, rfl⟩
theorem d_L_922 {nm : String} : zD (m_L nm) 922 (.iadd) 1 923 := ⟨eg_L_568.1, rfl⟩
theorem d_L_923 {nm : String} : zD (m_L nm) 923 (.iaload) 1 924 := ⟨eg_L_568.2.1, rfl⟩
theorem d_L_924 {nm : String} : zD (m_L nm) 924 (.aload_n 0) 1 925 := ⟨eg_L_568.2.2.1, rfl⟩
theorem d_L_925 {nm : String} : zD (m_L nm) 925 (.iload_n 3) 1 926 := ⟨eg_L_568.2.2.2.1, rfl⟩
theorem d_L_926 {nm : String} : zD (m_L nm) 926 (.iconst 3) 1 927 := ⟨eg_L_568.2.2.2.2.1, rfl⟩
theorem d_L_927 {nm : String} : zD (m_L nm) 927 (.iadd) 1 928 := ⟨eg_L_568.2.2.2.2.2.1, rfl⟩
theorem d_L_928 {nm : String} : zD (m_L nm) 928 (.iaload) 1 929 := ⟨eg_L_568.2.2.2.2.2.2.1, rfl⟩
theorem d_L_929 {nm : String} : zD (m_L nm) 929 (.invokevirtual 139) 3 932 := ⟨eg_L_568.2.2.2.2.2.2.2, rfl⟩
theorem d_L_932 {nm : String} : zD (m_L nm) 932 (.pop2) 1 933 := ⟨eg_L_576.1, rfl⟩
theorem d_L_933 {nm : String} : zD (m_L nm) 933 (.aload_n 2) 1 934 := ⟨eg_L_576.2.1, rfl⟩
theorem d_L_934 {nm : String} : zD (m_L nm) 934 (.aload_n 0) 1 935 := ⟨eg_L_576.2.2.1, rfl⟩
theorem d_L_935 {nm : String} : zD (m_L nm) 935 (.iload_n 3) 1 936 := ⟨eg_L_576.2.2.2.1, rfl⟩
theorem d_L_936 {nm : String} : zD (m_L nm) 936 (.iconst 1) 1 937 := ⟨eg_L_576.2.2.2.2.1, rfl⟩
theorem d_L_937 {nm : String} : zD (m_L nm) 937 (.iadd) 1 938 := ⟨eg_L_576.2.2.2.2.2.1, rfl⟩
theorem d_L_938 {nm : String} : zD (m_L nm) 938 (.iaload) 1 939 := ⟨eg_L_576.2.2.2.2.2.2.1, rfl⟩
theorem d_L_939 {nm : String} : zD (m_L nm) 939 (.aload_n 0) 1 940 := ⟨eg_L_576.2.2.2.2.2.2.2, rfl⟩
theorem d_L_940 {nm : String} : zD (m_L nm) 940 (.iload_n 3) 1 941 := ⟨eg_L_584.1, rfl⟩
theorem d_L_941 {nm : String} : zD (m_L nm) 941 (.iconst 2) 1 942 := ⟨eg_L_584.2.1, rfl⟩
theorem d_L_942 {nm : String} : zD (m_L nm) 942 (.iadd) 1 943 := ⟨eg_L_584.2.2.1, rfl⟩
theorem d_L_943 {nm : String} : zD (m_L nm) 943 (.iaload) 1 944 := ⟨eg_L_584.2.2.2.1, rfl⟩
theorem d_L_944 {nm : String} : zD (m_L nm) 944 (.aload_n 0) 1 945 := ⟨eg_L_584.2.2.2.2.1, rfl⟩
theorem d_L_945 {nm : String} : zD (m_L nm) 945 (.iload_n 3) 1 946 := ⟨eg_L_584.2.2.2.2.2.1, rfl⟩
theorem d_L_946 {nm : String} : zD (m_L nm) 946 (.iconst 3) 1 947 := ⟨eg_L_584.2.2.2.2.2.2.1, rfl⟩
theorem d_L_947 {nm : String} : zD (m_L nm) 947 (.iadd) 1 948 := ⟨eg_L_584.2.2.2.2.2.2.2, rfl⟩
theorem d_L_948 {nm : String} : zD (m_L nm) 948 (.iaload) 1 949 := ⟨eg_L_592.1, rfl⟩
theorem d_L_949 {nm : String} : zD (m_L nm) 949 (.invokevirtual 143) 3 952 := ⟨eg_L_592.2.1, rfl⟩
theorem d_L_952 {nm : String} : zD (m_L nm) 952 (.pop2) 1 953 := ⟨eg_L_592.2.2.1, rfl⟩
theorem d_L_953 {nm : String} : zDj (m_L nm) 953 (.goto) 956 1177 := ⟨224, eg_L_592.2.2.2.1, rfl, by decide⟩
theorem d_L_956 {nm : String} : zD (m_L nm) 956 (.aload_n 1) 1 957 := ⟨eg_L_592.2.2.2.2.1, rfl⟩
theorem d_L_957 {nm : String} : zD (m_L nm) 957 (.aload_n 0) 1 958 := ⟨eg_L_592.2.2.2.2.2.1, rfl⟩
theorem d_L_958 {nm : String} : zD (m_L nm) 958 (.iload_n 3) 1 959 := ⟨eg_L_592.2.2.2.2.2.2.1, rfl⟩
theorem d_L_959 {nm : String} : zD (m_L nm) 959 (.iconst 1) 1 960 := ⟨eg_L_592.2.2.2.2.2.2.2, rfl⟩
theorem d_L_960 {nm : String} : zD (m_L nm) 960 (.iadd) 1 961 := ⟨eg_L_600.1, rfl⟩
theorem d_L_961 {nm : String} : zD (m_L nm) 961 (.iaload) 1 962 := ⟨eg_L_600.2.1, rfl⟩
theorem d_L_962 {nm : String} : zD (m_L nm) 962 (.invokevirtual 144) 3 965 := ⟨eg_L_600.2.2.1, rfl⟩
theorem d_L_965 {nm : String} : zD (m_L nm) 965 (.pop) 1 966 := ⟨eg_L_600.2.2.2.1, rfl⟩
theorem d_L_966 {nm : String} : zD (m_L nm) 966 (.aload_n 2) 1 967 := ⟨eg_L_600.2.2.2.2.1, rfl⟩
theorem d_L_967 {nm : String} : zD (m_L nm) 967 (.aload_n 0) 1 968 := ⟨eg_L_600.2.2.2.2.2.1, rfl⟩
theorem d_L_968 {nm : String} : zD (m_L nm) 968 (.iload_n 3) 1 969 := ⟨eg_L_600.2.2.2.2.2.2.1, rfl⟩
theorem d_L_969 {nm : String} : zD (m_L nm) 969 (.iconst 1) 1 970 := ⟨eg_L_600.2.2.2.2.2.2.2, rfl⟩
theorem d_L_970 {nm : String} : zD (m_L nm) 970 (.iadd) 1 971 := ⟨eg_L_608.1, rfl⟩
theorem d_L_971 {nm : String} : zD (m_L nm) 971 (.iaload) 1 972 := ⟨eg_L_608.2.1, rfl⟩
theorem d_L_972 {nm : String} : zD (m_L nm) 972 (.invokevirtual 147) 3 975 := ⟨eg_L_608.2.2.1, rfl⟩
theorem d_L_975 {nm : String} : zD (m_L nm) 975 (.pop) 1 976 := ⟨eg_L_608.2.2.2.1, rfl⟩
theorem d_L_976 {nm : String} : zDj (m_L nm) 976 (.goto) 979 1177 := ⟨201, eg_L_608.2.2.2.2.1, rfl, by decide⟩
theorem d_L_979 {nm : String} : zD (m_L nm) 979 (.aload_n 1) 1 980 := ⟨eg_L_608.2.2.2.2.2.1, rfl⟩
theorem d_L_980 {nm : String} : zD (m_L nm) 980 (.aload_n 0) 1 981 := ⟨eg_L_608.2.2.2.2.2.2.1, rfl⟩
theorem d_L_981 {nm : String} : zD (m_L nm) 981 (.iload_n 3) 1 982 := ⟨eg_L_608.2.2.2.2.2.2.2, rfl⟩
theorem d_L_982 {nm : String} : zD (m_L nm) 982 (.iconst 1) 1 983 := ⟨eg_L_616.1, rfl⟩
theorem d_L_983 {nm : String} : zD (m_L nm) 983 (.iadd) 1 984 := ⟨eg_L_616.2.1, rfl⟩
theorem d_L_984 {nm : String} : zD (m_L nm) 984 (.iaload) 1 985 := ⟨eg_L_616.2.2.1, rfl⟩
theorem d_L_985 {nm : String} : zD (m_L nm) 985 (.invokevirtual 148) 3 988 := ⟨eg_L_616.2.2.2.1, rfl⟩
theorem d_L_988 {nm : String} : zD (m_L nm) 988 (.pop) 1 989 := ⟨eg_L_616.2.2.2.2.1, rfl⟩
theorem d_L_989 {nm : String} : zD (m_L nm) 989 (.aload_n 2) 1 990 := ⟨eg_L_616.2.2.2.2.2.1, rfl⟩
theorem d_L_990 {nm : String} : zD (m_L nm) 990 (.aload_n 0) 1 991 := ⟨eg_L_616.2.2.2.2.2.2.1, rfl⟩
theorem d_L_991 {nm : String} : zD (m_L nm) 991 (.iload_n 3) 1 992 := ⟨eg_L_616.2.2.2.2.2.2.2, rfl⟩
theorem d_L_992 {nm : String} : zD (m_L nm) 992 (.iconst 1) 1 993 := ⟨eg_L_624.1, rfl⟩
theorem d_L_993 {nm : String} : zD (m_L nm) 993 (.iadd) 1 994 := ⟨eg_L_624.2.1, rfl⟩
theorem d_L_994 {nm : String} : zD (m_L nm) 994 (.iaload) 1 995 := ⟨eg_L_624.2.2.1, rfl⟩
theorem d_L_995 {nm : String} : zD (m_L nm) 995 (.invokevirtual 151) 3 998 := ⟨eg_L_624.2.2.2.1, rfl⟩
theorem d_L_998 {nm : String} : zD (m_L nm) 998 (.pop) 1 999 := ⟨eg_L_624.2.2.2.2.1, rfl⟩
theorem d_L_999 {nm : String} : zDj (m_L nm) 999 (.goto) 1002 1177 := ⟨178, eg_L_624.2.2.2.2.2.1, rfl, by decide⟩
theorem d_L_1002 {nm : String} : zD (m_L nm) 1002 (.aload_n 1) 1 1003 := ⟨eg_L_624.2.2.2.2.2.2.1, rfl⟩
theorem d_L_1003 {nm : String} : zD (m_L nm) 1003 (.aload_n 0) 1 1004 := ⟨eg_L_624.2.2.2.2.2.2.2, rfl⟩
theorem d_L_1004 {nm : String} : zD (m_L nm) 1004 (.iload_n 3) 1 1005 := ⟨eg_L_632.1, rfl⟩
theorem d_L_1005 {nm : String} : zD (m_L nm) 1005 (.iconst 1) 1 1006 := ⟨eg_L_632.2.1, rfl⟩
theorem d_L_1006 {nm : String} : zD (m_L nm) 1006 (.iadd) 1 1007 := ⟨eg_L_632.2.2.1, rfl⟩
theorem d_L_1007 {nm : String} : zD (m_L nm) 1007 (.iaload) 1 1008 := ⟨eg_L_632.2.2.2.1, rfl⟩
theorem d_L_1008 {nm : String} : zD (m_L nm) 1008 (.aload_n 0) 1 1009 := ⟨eg_L_632.2.2.2.2.1, rfl⟩
theorem d_L_1009 {nm : String} : zD (m_L nm) 1009 (.iload_n 3) 1 1010 := ⟨eg_L_632.2.2.2.2.2.1, rfl⟩
theorem d_L_1010 {nm : String} : zD (m_L nm) 1010 (.iconst 2) 1 1011 := ⟨eg_L_632.2.2.2.2.2.2.1, rfl⟩
theorem d_L_1011 {nm : String} : zD (m_L nm) 1011 (.iadd) 1 1012 := ⟨eg_L_632.2.2.2.2.2.2.2, rfl⟩
theorem d_L_1012 {nm : String} : zD (m_L nm) 1012 (.iaload) 1 1013 := ⟨eg_L_640.1, rfl⟩
theorem d_L_1013 {nm : String} : zD (m_L nm) 1013 (.aload_n 0) 1 1014 := ⟨eg_L_640.2.1, rfl⟩
theorem d_L_1014 {nm : String} : zD (m_L nm) 1014 (.iload_n 3) 1 1015 := ⟨eg_L_640.2.2.1, rfl⟩
theorem d_L_1015 {nm : String} : zD (m_L nm) 1015 (.iconst 3) 1 1016 := ⟨eg_L_640.2.2.2.1, rfl⟩
theorem d_L_1016 {nm : String} : zD (m_L nm) 1016 (.iadd) 1 1017 := ⟨eg_L_640.2.2.2.2.1, rfl⟩
theorem d_L_1017 {nm : String} : zD (m_L nm) 1017 (.iaload) 1 1018 := ⟨eg_L_640.2.2.2.2.2.1, rfl⟩
theorem d_L_1018 {nm : String} : zD (m_L nm) 1018 (.invokevirtual 152) 3 1021 := ⟨eg_L_640.2.2.2.2.2.2.1, rfl⟩
theorem d_L_1021 {nm : String} : zD (m_L nm) 1021 (.pop) 1 1022 := ⟨eg_L_640.2.2.2.2.2.2.2, rfl⟩
theorem d_L_1022 {nm : String} : zD (m_L nm) 1022 (.aload_n 2) 1 1023 := ⟨eg_L_648.1, rfl⟩
theorem d_L_1023 {nm : String} : zD (m_L nm) 1023 (.aload_n 0) 1 1024 := ⟨eg_L_648.2.1, rfl⟩
theorem d_L_1024 {nm : String} : zD (m_L nm) 1024 (.iload_n 3) 1 1025 := ⟨eg_L_648.2.2.1, rfl⟩
theorem d_L_1025 {nm : String} : zD (m_L nm) 1025 (.iconst 1) 1 1026 := ⟨eg_L_648.2.2.2.1, rfl⟩
theorem d_L_1026 {nm : String} : zD (m_L nm) 1026 (.iadd) 1 1027 := ⟨eg_L_648.2.2.2.2.1, rfl⟩
theorem d_L_1027 {nm : String} : zD (m_L nm) 1027 (.iaload) 1 1028 := ⟨eg_L_648.2.2.2.2.2.1, rfl⟩
theorem d_L_1028 {nm : String} : zD (m_L nm) 1028 (.aload_n 0) 1 1029 := ⟨eg_L_648.2.2.2.2.2.2.1, rfl⟩
theorem d_L_1029 {nm : String} : zD (m_L nm) 1029 (.iload_n 3) 1 1030 := ⟨eg_L_648.2.2.2.2.2.2.2, rfl⟩
theorem d_L_1030 {nm : String} : zD (m_L nm) 1030 (.iconst 2) 1 1031 := ⟨eg_L_656.1, rfl⟩
theorem d_L_1031 {nm : String} : zD (m_L nm) 1031 (.iadd) 1 1032 := ⟨eg_L_656.2.1, rfl⟩
theorem d_L_1032 {nm : String} : zD (m_L nm) 1032 (.iaload) 1 1033 := ⟨eg_L_656.2.2.1, rfl⟩
theorem d_L_1033 {nm : String} : zD (m_L nm) 1033 (.aload_n 0) 1 1034 := ⟨eg_L_656.2.2.2.1, rfl⟩
theorem d_L_1034 {nm : String} : zD (m_L nm) 1034 (.iload_n 3) 1 1035 := ⟨eg_L_656.2.2.2.2.1, rfl⟩
theorem d_L_1035 {nm : String} : zD (m_L nm) 1035 (.iconst 3) 1 1036 := ⟨eg_L_656.2.2.2.2.2.1, rfl⟩
theorem d_L_1036 {nm : String} : zD (m_L nm) 1036 (.iadd) 1 1037 := ⟨eg_L_656.2.2.2.2.2.2.1, rfl⟩
theorem d_L_1037 {nm : String} : zD (m_L nm) 1037 (.iaload) 1 1038 := ⟨eg_L_656.2.2.2.2.2.2.2, rfl⟩
theorem d_L_1038 {nm : String} : zD (m_L nm) 1038 (.invokevirtual 155) 3 1041 := ⟨eg_L_664.1, rfl⟩
theorem d_L_1041 {nm : String} : zD (m_L nm) 1041 (.pop) 1 1042 := ⟨eg_L_664.2.1, rfl⟩
theorem d_L_1042 {nm : String} : zDj (m_L nm) 1042 (.goto) 1045 1177 := ⟨135, eg_L_664.2.2.1, rfl, by decide⟩
theorem d_L_1045 {nm : String} : zD (m_L nm) 1045 (.aload_n 1) 1 1046 := ⟨eg_L_664.2.2.2.1, rfl⟩
theorem d_L_1046 {nm : String} : zD (m_L nm) 1046 (.aload_n 0) 1 1047 := ⟨eg_L_664.2.2.2.2.1, rfl⟩
theorem d_L_1047 {nm : String} : zD (m_L nm) 1047 (.iload_n 3) 1 1048 := ⟨eg_L_664.2.2.2.2.2.1, rfl⟩
theorem d_L_1048 {nm : String} : zD (m_L nm) 1048 (.iconst 1) 1 1049 := ⟨eg_L_664.2.2.2.2.2.2.1, rfl⟩
theorem d_L_1049 {nm : String} : zD (m_L nm) 1049 (.iadd) 1 1050 := ⟨eg_L_664.2.2.2.2.2.2.2, rfl⟩
theorem d_L_1050 {nm : String} : zD (m_L nm) 1050 (.iaload) 1 1051 := ⟨eg_L_672.1, rfl⟩
theorem d_L_1051 {nm : String} : zD (m_L nm) 1051 (.aload_n 0) 1 1052 := ⟨eg_L_672.2.1, rfl⟩
theorem d_L_1052 {nm : String} : zD (m_L nm) 1052 (.iload_n 3) 1 1053 := ⟨eg_L_672.2.2.1, rfl⟩
theorem d_L_1053 {nm : String} : zD (m_L nm) 1053 (.iconst 2) 1 1054 := ⟨eg_L_672.2.2.2.1, rfl⟩
theorem d_L_1054 {nm : String} : zD (m_L nm) 1054 (.iadd) 1 1055 := ⟨eg_L_672.2.2.2.2.1, rfl⟩
theorem d_L_1055 {nm : String} : zD (m_L nm) 1055 (.iaload) 1 1056 := ⟨eg_L_672.2.2.2.2.2.1, rfl⟩
theorem d_L_1056 {nm : String} : zD (m_L nm) 1056 (.aload_n 0) 1 1057 := ⟨eg_L_672.2.2.2.2.2.2.1, rfl⟩
theorem d_L_1057 {nm : String} : zD (m_L nm) 1057 (.iload_n 3) 1 1058 := ⟨eg_L_672.2.2.2.2.2.2.2, rfl⟩
theorem d_L_1058 {nm : String} : zD (m_L nm) 1058 (.iconst 3) 1 1059 := ⟨eg_L_680.1, rfl⟩
theorem d_L_1059 {nm : String} : zD (m_L nm) 1059 (.iadd) 1 1060 := ⟨eg_L_680.2.1, rfl⟩
theorem d_L_1060 {nm : String} : zD (m_L nm) 1060 (.iaload) 1 1061 := ⟨eg_L_680.2.2.1, rfl⟩
theorem d_L_1061 {nm : String} : zD (m_L nm) 1061 (.invokevirtual 156) 3 1064 := ⟨eg_L_680.2.2.2.1, rfl⟩
theorem d_L_1064 {nm : String} : zD (m_L nm) 1064 (.pop) 1 1065 := ⟨eg_L_680.2.2.2.2.1, rfl⟩
theorem d_L_1065 {nm : String} : zD (m_L nm) 1065 (.aload_n 2) 1 1066 := ⟨eg_L_680.2.2.2.2.2.1, rfl⟩
theorem d_L_1066 {nm : String} : zD (m_L nm) 1066 (.aload_n 0) 1 1067 := ⟨eg_L_680.2.2.2.2.2.2.1, rfl⟩
theorem d_L_1067 {nm : String} : zD (m_L nm) 1067 (.iload_n 3) 1 1068 := ⟨eg_L_680.2.2.2.2.2.2.2, rfl⟩
theorem d_L_1068 {nm : String} : zD (m_L nm) 1068 (.iconst 1) 1 1069 := ⟨eg_L_688.1, rfl⟩
theorem d_L_1069 {nm : String} : zD (m_L nm) 1069 (.iadd) 1 1070 := ⟨eg_L_688.2.1, rfl⟩
theorem d_L_1070 {nm : String} : zD (m_L nm) 1070 (.iaload) 1 1071 := ⟨eg_L_688.2.2.1, rfl⟩
theorem d_L_1071 {nm : String} : zD (m_L nm) 1071 (.aload_n 0) 1 1072 := ⟨eg_L_688.2.2.2.1, rfl⟩
theorem d_L_1072 {nm : String} : zD (m_L nm) 1072 (.iload_n 3) 1 1073 := ⟨eg_L_688.2.2.2.2.1, rfl⟩
theorem d_L_1073 {nm : String} : zD (m_L nm) 1073 (.iconst 2) 1 1074 := ⟨eg_L_688.2.2.2.2.2.1, rfl⟩
theorem d_L_1074 {nm : String} : zD (m_L nm) 1074 (.iadd) 1 1075 := ⟨eg_L_688.2.2.2.2.2.2.1, rfl⟩
theorem d_L_1075 {nm : String} : zD (m_L nm) 1075 (.iaload) 1 1076 := ⟨eg_L_688.2.2.2.2.2.2.2, rfl⟩
theorem d_L_1076 {nm : String} : zD (m_L nm) 1076 (.aload_n 0) 1 1077 := ⟨eg_L_696.1, rfl⟩
theorem d_L_1077 {nm : String} : zD (m_L nm) 1077 (.iload_n 3) 1 1078 := ⟨eg_L_696.2.1, rfl⟩
theorem d_L_1078 {nm : String} : zD (m_L nm) 1078 (.iconst 3) 1 1079 := ⟨eg_L_696.2.2.1, rfl⟩
theorem d_L_1079 {nm : String} : zD (m_L nm) 1079 (.iadd) 1 1080 := ⟨eg_L_696.2.2.2.1, rfl⟩
theorem d_L_1080 {nm : String} : zD (m_L nm) 1080 (.iaload) 1 1081 := ⟨eg_L_696.2.2.2.2.1, rfl⟩
theorem d_L_1081 {nm : String} : zD (m_L nm) 1081 (.invokevirtual 159) 3 1084 := ⟨eg_L_696.2.2.2.2.2.1, rfl⟩
theorem d_L_1084 {nm : String} : zD (m_L nm) 1084 (.pop) 1 1085 := ⟨eg_L_696.2.2.2.2.2.2.1, rfl⟩
theorem d_L_1085 {nm : String} : zDj (m_L nm) 1085 (.goto) 1088 1177 := ⟨92, eg_L_696.2.2.2.2.2.2.2, rfl, by decide⟩
theorem d_L_1088 {nm : String} : zD (m_L nm) 1088 (.aload_n 1) 1 1089 := ⟨eg_L_704.1, rfl⟩
theorem d_L_1089 {nm : String} : zD (m_L nm) 1089 (.aload_n 0) 1 1090 := ⟨eg_L_704.2.1, rfl⟩
theorem d_L_1090 {nm : String} : zD (m_L nm) 1090 (.iload_n 3) 1 1091 := ⟨eg_L_704.2.2.1, rfl⟩
theorem d_L_1091 {nm : String} : zD (m_L nm) 1091 (.iconst 1) 1 1092 := ⟨eg_L_704.2.2.2.1, rfl⟩
theorem d_L_1092 {nm : String} : zD (m_L nm) 1092 (.iadd) 1 1093 := ⟨eg_L_704.2.2.2.2.1, rfl⟩
theorem d_L_1093 {nm : String} : zD (m_L nm) 1093 (.iaload) 1 1094 := ⟨eg_L_704.2.2.2.2.2.1, rfl⟩
theorem d_L_1094 {nm : String} : zD (m_L nm) 1094 (.aload_n 0) 1 1095 := ⟨eg_L_704.2.2.2.2.2.2.1, rfl⟩
theorem d_L_1095 {nm : String} : zD (m_L nm) 1095 (.iload_n 3) 1 1096 := ⟨eg_L_704.2.2.2.2.2.2.2, rfl⟩
theorem d_L_1096 {nm : String} : zD (m_L nm) 1096 (.iconst 2) 1 1097 := ⟨eg_L_712.1, rfl⟩
theorem d_L_1097 {nm : String} : zD (m_L nm) 1097 (.iadd) 1 1098 := ⟨eg_L_712.2.1, rfl⟩
theorem d_L_1098 {nm : String} : zD (m_L nm) 1098 (.iaload) 1 1099 := ⟨eg_L_712.2.2.1, rfl⟩
theorem d_L_1099 {nm : String} : zD (m_L nm) 1099 (.aload_n 0) 1 1100 := ⟨eg_L_712.2.2.2.1, rfl⟩
theorem d_L_1100 {nm : String} : zD (m_L nm) 1100 (.iload_n 3) 1 1101 := ⟨eg_L_712.2.2.2.2.1, rfl⟩
theorem d_L_1101 {nm : String} : zD (m_L nm) 1101 (.iconst 3) 1 1102 := ⟨eg_L_712.2.2.2.2.2.1, rfl⟩
theorem d_L_1102 {nm : String} : zD (m_L nm) 1102 (.iadd) 1 1103 := ⟨eg_L_712.2.2.2.2.2.2.1, rfl⟩
theorem d_L_1103 {nm : String} : zD (m_L nm) 1103 (.iaload) 1 1104 := ⟨eg_L_712.2.2.2.2.2.2.2, rfl⟩
theorem d_L_1104 {nm : String} : zD (m_L nm) 1104 (.aload_n 0) 1 1105 := ⟨eg_L_720.1, rfl⟩
theorem d_L_1105 {nm : String} : zD (m_L nm) 1105 (.iload_n 3) 1 1106 := ⟨eg_L_720.2.1, rfl⟩
theorem d_L_1106 {nm : String} : zD (m_L nm) 1106 (.iconst 4) 1 1107 := ⟨eg_L_720.2.2.1, rfl⟩
theorem d_L_1107 {nm : String} : zD (m_L nm) 1107 (.iadd) 1 1108 := ⟨eg_L_720.2.2.2.1, rfl⟩
theorem d_L_1108 {nm : String} : zD (m_L nm) 1108 (.iaload) 1 1109 := ⟨eg_L_720.2.2.2.2.1, rfl⟩
theorem d_L_1109 {nm : String} : zD (m_L nm) 1109 (.invokevirtual 160) 3 1112 := ⟨eg_L_720.2.2.2.2.2.1, rfl⟩
theorem d_L_1112 {nm : String} : zD (m_L nm) 1112 (.pop) 1 1113 := ⟨eg_L_720.2.2.2.2.2.2.1, rfl⟩
theorem d_L_1113 {nm : String} : zD (m_L nm) 1113 (.aload_n 2) 1 1114 := ⟨eg_L_720.2.2.2.2.2.2.2, rfl⟩
theorem d_L_1114 {nm : String} : zD (m_L nm) 1114 (.aload_n 0) 1 1115 := ⟨eg_L_728.1, rfl⟩
theorem d_L_1115 {nm : String} : zD (m_L nm) 1115 (.iload_n 3) 1 1116 := ⟨eg_L_728.2.1, rfl⟩
theorem d_L_1116 {nm : String} : zD (m_L nm) 1116 (.iconst 1) 1 1117 := ⟨eg_L_728.2.2.1, rfl⟩
theorem d_L_1117 {nm : String} : zD (m_L nm) 1117 (.iadd) 1 1118 := ⟨eg_L_728.2.2.2.1, rfl⟩
theorem d_L_1118 {nm : String} : zD (m_L nm) 1118 (.iaload) 1 1119 := ⟨eg_L_728.2.2.2.2.1, rfl⟩
theorem d_L_1119 {nm : String} : zD (m_L nm) 1119 (.aload_n 0) 1 1120 := ⟨eg_L_728.2.2.2.2.2.1, rfl⟩
theorem d_L_1120 {nm : String} : zD (m_L nm) 1120 (.iload_n 3) 1 1121 := ⟨eg_L_728.2.2.2.2.2.2.1, rfl⟩
theorem d_L_1121 {nm : String} : zD (m_L nm) 1121 (.iconst 2) 1 1122 := ⟨eg_L_728.2.2.2.2.2.2.2, rfl⟩
theorem d_L_1122 {nm : String} : zD (m_L nm) 1122 (.iadd) 1 1123 := ⟨eg_L_736.1, rfl⟩
theorem d_L_1123 {nm : String} : zD (m_L nm) 1123 (.iaload) 1 1124 := ⟨eg_L_736.2.1, rfl⟩
theorem d_L_1124 {nm : String} : zD (m_L nm) 1124 (.aload_n 0) 1 1125 := ⟨eg_L_736.2.2.1, rfl⟩
theorem d_L_1125 {nm : String} : zD (m_L nm) 1125 (.iload_n 3) 1 1126 := ⟨eg_L_736.2.2.2.1, rfl⟩
theorem d_L_1126 {nm : String} : zD (m_L nm) 1126 (.iconst 3) 1 1127 := ⟨eg_L_736.2.2.2.2.1, rfl⟩
theorem d_L_1127 {nm : String} : zD (m_L nm) 1127 (.iadd) 1 1128 := ⟨eg_L_736.2.2.2.2.2.1, rfl⟩
theorem d_L_1128 {nm : String} : zD (m_L nm) 1128 (.iaload) 1 1129 := ⟨eg_L_736.2.2.2.2.2.2.1, rfl⟩
theorem d_L_1129 {nm : String} : zD (m_L nm) 1129 (.aload_n 0) 1 1130 := ⟨eg_L_736.2.2.2.2.2.2.2, rfl⟩
theorem d_L_1130 {nm : String} : zD (m_L nm) 1130 (.iload_n 3) 1 1131 := ⟨eg_L_744.1, rfl⟩
theorem d_L_1131 {nm : String} : zD (m_L nm) 1131 (.iconst 4) 1 1132 := ⟨eg_L_744.2.1, rfl⟩
theorem d_L_1132 {nm : String} : zD (m_L nm) 1132 (.iadd) 1 1133 := ⟨eg_L_744.2.2.1, rfl⟩
theorem d_L_1133 {nm : String} : zD (m_L nm) 1133 (.iaload) 1 1134 := ⟨eg_L_744.2.2.2.1, rfl⟩
theorem d_L_1134 {nm : String} : zD (m_L nm) 1134 (.invokevirtual 163) 3 1137 := ⟨eg_L_744.2.2.2.2.1, rfl⟩
theorem d_L_1137 {nm : String} : zD (m_L nm) 1137 (.pop) 1 1138 := ⟨eg_L_744.2.2.2.2.2.1, rfl⟩
theorem d_L_1138 {nm : String} : zDj (m_L nm) 1138 (.goto) 1141 1177 := ⟨39, eg_L_744.2.2.2.2.2.2.1, rfl, by decide⟩
theorem d_L_1141 {nm : String} : zD (m_L nm) 1141 (.aload_n 1) 1 1142 := ⟨eg_L_744.2.2.2.2.2.2.2, rfl⟩
theorem d_L_1142 {nm : String} : zD (m_L nm) 1142 (.invokevirtual 164) 3 1145 := ⟨eg_L_752.1, rfl⟩
theorem d_L_1145 {nm : String} : zD (m_L nm) 1145 (.pop) 1 1146 := ⟨eg_L_752.2.1, rfl⟩
theorem d_L_1146 {nm : String} : zD (m_L nm) 1146 (.aload_n 2) 1 1147 := ⟨eg_L_752.2.2.1, rfl⟩
theorem d_L_1147 {nm : String} : zD (m_L nm) 1147 (.invokevirtual 167) 3 1150 := ⟨eg_L_752.2.2.2.1, rfl⟩
theorem d_L_1150 {nm : String} : zD (m_L nm) 1150 (.pop) 1 1151 := ⟨eg_L_752.2.2.2.2.1, rfl⟩
theorem d_L_1151 {nm : String} : zDj (m_L nm) 1151 (.goto) 1154 1177 := ⟨26, eg_L_752.2.2.2.2.2.1, rfl, by decide⟩
theorem d_L_1154 {nm : String} : zD (m_L nm) 1154 (.aload_n 1) 1 1155 := ⟨eg_L_752.2.2.2.2.2.2.1, rfl⟩
theorem d_L_1155 {nm : String} : zD (m_L nm) 1155 (.aload_n 0) 1 1156 := ⟨eg_L_752.2.2.2.2.2.2.2, rfl⟩
theorem d_L_1156 {nm : String} : zD (m_L nm) 1156 (.iload_n 3) 1 1157 := ⟨eg_L_760.1, rfl⟩
theorem d_L_1157 {nm : String} : zD (m_L nm) 1157 (.iconst 1) 1 1158 := ⟨eg_L_760.2.1, rfl⟩
theorem d_L_1158 {nm : String} : zD (m_L nm) 1158 (.iadd) 1 1159 := ⟨eg_L_760.2.2.1, rfl⟩
theorem d_L_1159 {nm : String} : zD (m_L nm) 1159 (.iaload) 1 1160 := ⟨eg_L_760.2.2.2.1, rfl⟩
theorem d_L_1160 {nm : String} : zD (m_L nm) 1160 (.invokevirtual 168) 3 1163 := ⟨eg_L_760.2.2.2.2.1, rfl⟩
theorem d_L_1163 {nm : String} : zD (m_L nm) 1163 (.aload_n 2) 1 1164 := ⟨eg_L_760.2.2.2.2.2.1, rfl⟩
theorem d_L_1164 {nm : String} : zD (m_L nm) 1164 (.aload_n 0) 1 1165 := ⟨eg_L_760.2.2.2.2.2.2.1, rfl⟩
theorem d_L_1165 {nm : String} : zD (m_L nm) 1165 (.iload_n 3) 1 1166 := ⟨eg_L_760.2.2.2.2.2.2.2, rfl⟩
theorem d_L_1166 {nm : String} : zD (m_L nm) 1166 (.iconst 1) 1 1167 := ⟨eg_L_768.1, rfl⟩
theorem d_L_1167 {nm : String} : zD (m_L nm) 1167 (.iadd) 1 1168 := ⟨eg_L_768.2.1, rfl⟩
theorem d_L_1168 {nm : String} : zD (m_L nm) 1168 (.iaload) 1 1169 := ⟨eg_L_768.2.2.1, rfl⟩
theorem d_L_1169 {nm : String} : zD (m_L nm) 1169 (.invokevirtual 171) 3 1172 := ⟨eg_L_768.2.2.2.1, rfl⟩
theorem d_L_1172 {nm : String} : zDj (m_L nm) 1172 (.if_icmp .eq) 1175 1177 := ⟨5, eg_L_768.2.2.2.2.1, rfl, by decide⟩
theorem d_L_1175 {nm : String} : zD (m_L nm) 1175 (.iconst 0) 1 1176 := ⟨eg_L_768.2.2.2.2.2.1, rfl⟩
theorem d_L_1176 : decode code 1176 = .ok (.ireturn, 1) := eg_L_768.2.2.2.2.2.2.1
theorem d_L_1177 {nm : String} : zD (m_L nm) 1177 (.iinc 3 5) 3 1180 := ⟨eg_L_768.2.2.2.2.2.2.2, rfl⟩
theorem d_L_1180 {nm : String} : zDj (m_L nm) 1180 (.goto) 1183 18 := ⟨-1162, eg_L_776.1, rfl, by decide⟩
theorem d_L_1183 {nm : String} : zD (m_L nm) 1183 (.iconst 1) 1 1184 := ⟨eg_L_776.2.1, rfl⟩
theorem d_L_1184 : decode code 1184 = .ok (.ireturn, 1) := eg_L_776.2.2
set_option maxRecDepth 20000 in
theorem q_L_9 {nm : String} : zCi (m_L nm) 9 m_X7_init 0 := ⟨⟨cc_X7_init.1, cc_X7_init.2.1, cc_X7_init.2.2.1, cc_X7_init.2.2.2, ⟨Nat.le_of_ble_eq_true rfl, Nat.le_of_ble_eq_true rfl⟩⟩, in_g (up_1 (List.mem_of_getElem? (i := 19) rfl)) rfl, in_g (up_1 (List.mem_of_getElem? (i := 20) rfl)) rfl, rfl, rfl⟩
set_option maxRecDepth 20000 in
theorem q_L_12 {nm : String} : zCi (m_L nm) 12 m_X8_init 0 := ⟨⟨cc_X8_init.1, cc_X8_init.2.1, cc_X8_init.2.2.1, cc_X8_init.2.2.2, ⟨Nat.le_of_ble_eq_true rfl, Nat.le_of_ble_eq_true rfl⟩⟩, in_g (up_4 (List.mem_of_getElem? (i := 116) rfl)) rfl, in_g (up_4 (List.mem_of_getElem? (i := 117) rfl)) rfl, rfl, rfl⟩
set_option maxRecDepth 20000 in
theorem q_L_15 {nm : String} : zCv (m_L nm) 15 m_X7_feed 7 1 := ⟨⟨cc_X7_feed.1, cc_X7_feed.2.1, cc_X7_feed.2.2.1, cc_X7_feed.2.2.2, ⟨Nat.le_of_ble_eq_true rfl, Nat.le_of_ble_eq_true rfl⟩⟩, in_g (up_2 (List.mem_of_getElem? (i := 56) rfl)) rfl, in_g (up_2 (List.mem_of_getElem? (i := 57) rfl)) rfl, ⟨_, _, _, rfl, in_g (up_2 (List.mem_of_getElem? (i := 58) rfl)) rfl⟩⟩
set_option maxRecDepth 20000 in
theorem q_L_19 {nm : String} : zCv (m_L nm) 19 m_X8_feed 8 1 := ⟨⟨cc_X8_feed.1, cc_X8_feed.2.1, cc_X8_feed.2.2.1, cc_X8_feed.2.2.2, ⟨Nat.le_of_ble_eq_true rfl, Nat.le_of_ble_eq_true rfl⟩⟩, in_g (up_5 (List.mem_of_getElem? (i := 6) rfl)) rfl, in_g (up_5 (List.mem_of_getElem? (i := 7) rfl)) rfl, ⟨_, _, _, rfl, in_g (up_5 (List.mem_of_getElem? (i := 8) rfl)) rfl⟩⟩
set_option maxRecDepth 20000 in
theorem q_L_20 {nm : String} : zCv (m_L nm) 20 m_X7_end 7 1 := ⟨⟨cc_X7_end.1, cc_X7_end.2.1, cc_X7_end.2.2.1, cc_X7_end.2.2.2, ⟨Nat.le_of_ble_eq_true rfl, Nat.le_of_ble_eq_true rfl⟩⟩, in_g (up_2 (List.mem_of_getElem? (i := 64) rfl)) rfl, in_g (up_2 (List.mem_of_getElem? (i := 65) rfl)) rfl, ⟨_, _, _, rfl, in_g (up_2 (List.mem_of_getElem? (i := 66) rfl)) rfl⟩⟩
set_option maxRecDepth 20000 in
theorem q_L_24 {nm : String} : zCv (m_L nm) 24 m_X8_end 8 1 := ⟨⟨cc_X8_end.1, cc_X8_end.2.1, cc_X8_end.2.2.1, cc_X8_end.2.2.2, ⟨Nat.le_of_ble_eq_true rfl, Nat.le_of_ble_eq_true rfl⟩⟩, in_g (up_5 (List.mem_of_getElem? (i := 11) rfl)) rfl, in_g (up_5 (List.mem_of_getElem? (i := 12) rfl)) rfl, ⟨_, _, _, rfl, in_g (up_5 (List.mem_of_getElem? (i := 13) rfl)) rfl⟩⟩
set_option maxRecDepth 20000 in
theorem q_L_25 {nm : String} : zCv (m_L nm) 25 m_X7_text 7 0 := ⟨⟨cc_X7_text.1, cc_X7_text.2.1, cc_X7_text.2.2.1, cc_X7_text.2.2.2, ⟨Nat.le_of_ble_eq_true rfl, Nat.le_of_ble_eq_true rfl⟩⟩, in_g (up_2 (List.mem_of_getElem? (i := 68) rfl)) rfl, in_g (up_2 (List.mem_of_getElem? (i := 69) rfl)) rfl, ⟨_, _, _, rfl, in_g (up_2 (List.mem_of_getElem? (i := 70) rfl)) rfl⟩⟩
set_option maxRecDepth 20000 in
theorem q_L_29 {nm : String} : zCv (m_L nm) 29 m_X8_text 8 0 := ⟨⟨cc_X8_text.1, cc_X8_text.2.1, cc_X8_text.2.2.1, cc_X8_text.2.2.2, ⟨Nat.le_of_ble_eq_true rfl, Nat.le_of_ble_eq_true rfl⟩⟩, in_g (up_5 (List.mem_of_getElem? (i := 15) rfl)) rfl, in_g (up_5 (List.mem_of_getElem? (i := 16) rfl)) rfl, ⟨_, _, _, rfl, in_g (up_5 (List.mem_of_getElem? (i := 17) rfl)) rfl⟩⟩
set_option maxRecDepth 20000 in
theorem q_L_30 {nm : String} : zCv (m_L nm) 30 m_X7_fault 7 0 := ⟨⟨cc_X7_fault.1, cc_X7_fault.2.1, cc_X7_fault.2.2.1, cc_X7_fault.2.2.2, ⟨Nat.le_of_ble_eq_true rfl, Nat.le_of_ble_eq_true rfl⟩⟩, in_g (up_2 (List.mem_of_getElem? (i := 219) rfl)) rfl, in_g (up_2 (List.mem_of_getElem? (i := 220) rfl)) rfl, ⟨_, _, _, rfl, in_g (up_2 (List.mem_of_getElem? (i := 221) rfl)) rfl⟩⟩
set_option maxRecDepth 20000 in
theorem q_L_33 {nm : String} : zCv (m_L nm) 33 m_X8_fault 8 0 := ⟨⟨cc_X8_fault.1, cc_X8_fault.2.1, cc_X8_fault.2.2.1, cc_X8_fault.2.2.2, ⟨Nat.le_of_ble_eq_true rfl, Nat.le_of_ble_eq_true rfl⟩⟩, in_g (up_5 (List.mem_of_getElem? (i := 72) rfl)) rfl, in_g (up_5 (List.mem_of_getElem? (i := 73) rfl)) rfl, ⟨_, _, _, rfl, in_g (up_5 (List.mem_of_getElem? (i := 74) rfl)) rfl⟩⟩
set_option maxRecDepth 20000 in
theorem q_L_34 {nm : String} : zCv (m_L nm) 34 m_X7_rule 7 1 := ⟨⟨cc_X7_rule.1, cc_X7_rule.2.1, cc_X7_rule.2.2.1, cc_X7_rule.2.2.2, ⟨Nat.le_of_ble_eq_true rfl, Nat.le_of_ble_eq_true rfl⟩⟩, in_g (up_2 (List.mem_of_getElem? (i := 223) rfl)) rfl, in_g (up_2 (List.mem_of_getElem? (i := 224) rfl)) rfl, ⟨_, _, _, rfl, in_g (up_2 (List.mem_of_getElem? (i := 225) rfl)) rfl⟩⟩
set_option maxRecDepth 20000 in
theorem q_L_37 {nm : String} : zCv (m_L nm) 37 m_X8_rule 8 1 := ⟨⟨cc_X8_rule.1, cc_X8_rule.2.1, cc_X8_rule.2.2.1, cc_X8_rule.2.2.2, ⟨Nat.le_of_ble_eq_true rfl, Nat.le_of_ble_eq_true rfl⟩⟩, in_g (up_5 (List.mem_of_getElem? (i := 76) rfl)) rfl, in_g (up_5 (List.mem_of_getElem? (i := 77) rfl)) rfl, ⟨_, _, _, rfl, in_g (up_5 (List.mem_of_getElem? (i := 78) rfl)) rfl⟩⟩
set_option maxRecDepth 20000 in
theorem q_L_38 {nm : String} : zCv (m_L nm) 38 m_X7_well 7 2 := ⟨⟨cc_X7_well.1, cc_X7_well.2.1, cc_X7_well.2.2.1, cc_X7_well.2.2.2, ⟨Nat.le_of_ble_eq_true rfl, Nat.le_of_ble_eq_true rfl⟩⟩, in_g (up_2 (List.mem_of_getElem? (i := 227) rfl)) rfl, in_g (up_2 (List.mem_of_getElem? (i := 228) rfl)) rfl, ⟨_, _, _, rfl, in_g (up_2 (List.mem_of_getElem? (i := 229) rfl)) rfl⟩⟩
set_option maxRecDepth 20000 in
theorem q_L_42 {nm : String} : zCv (m_L nm) 42 m_X8_well 8 2 := ⟨⟨cc_X8_well.1, cc_X8_well.2.1, cc_X8_well.2.2.1, cc_X8_well.2.2.2, ⟨Nat.le_of_ble_eq_true rfl, Nat.le_of_ble_eq_true rfl⟩⟩, in_g (up_5 (List.mem_of_getElem? (i := 81) rfl)) rfl, in_g (up_5 (List.mem_of_getElem? (i := 82) rfl)) rfl, ⟨_, _, _, rfl, in_g (up_5 (List.mem_of_getElem? (i := 83) rfl)) rfl⟩⟩
set_option maxRecDepth 20000 in
theorem q_L_43 {nm : String} : zCv (m_L nm) 43 m_X7_light 7 2 := ⟨⟨cc_X7_light.1, cc_X7_light.2.1, cc_X7_light.2.2.1, cc_X7_light.2.2.2, ⟨Nat.le_of_ble_eq_true rfl, Nat.le_of_ble_eq_true rfl⟩⟩, in_g (up_2 (List.mem_of_getElem? (i := 234) rfl)) rfl, in_g (up_2 (List.mem_of_getElem? (i := 235) rfl)) rfl, ⟨_, _, _, rfl, in_g (up_2 (List.mem_of_getElem? (i := 236) rfl)) rfl⟩⟩
set_option maxRecDepth 20000 in
theorem q_L_46 {nm : String} : zCv (m_L nm) 46 m_X8_light 8 2 := ⟨⟨cc_X8_light.1, cc_X8_light.2.1, cc_X8_light.2.2.1, cc_X8_light.2.2.2, ⟨Nat.le_of_ble_eq_true rfl, Nat.le_of_ble_eq_true rfl⟩⟩, in_g (up_5 (List.mem_of_getElem? (i := 90) rfl)) rfl, in_g (up_5 (List.mem_of_getElem? (i := 91) rfl)) rfl, ⟨_, _, _, rfl, in_g (up_5 (List.mem_of_getElem? (i := 92) rfl)) rfl⟩⟩
set_option maxRecDepth 20000 in
theorem q_L_47 {nm : String} : zCv (m_L nm) 47 m_X7_expose 7 1 := ⟨⟨cc_X7_expose.1, cc_X7_expose.2.1, cc_X7_expose.2.2.1, cc_X7_expose.2.2.2, ⟨Nat.le_of_ble_eq_true rfl, Nat.le_of_ble_eq_true rfl⟩⟩, in_g (up_3 (List.mem_of_getElem? (i := 1) rfl)) rfl, in_g (up_3 (List.mem_of_getElem? (i := 2) rfl)) rfl, ⟨_, _, _, rfl, in_g (up_3 (List.mem_of_getElem? (i := 3) rfl)) rfl⟩⟩
set_option maxRecDepth 20000 in
theorem q_L_50 {nm : String} : zCv (m_L nm) 50 m_X8_expose 8 1 := ⟨⟨cc_X8_expose.1, cc_X8_expose.2.1, cc_X8_expose.2.2.1, cc_X8_expose.2.2.2, ⟨Nat.le_of_ble_eq_true rfl, Nat.le_of_ble_eq_true rfl⟩⟩, in_g (up_5 (List.mem_of_getElem? (i := 95) rfl)) rfl, in_g (up_5 (List.mem_of_getElem? (i := 96) rfl)) rfl, ⟨_, _, _, rfl, in_g (up_5 (List.mem_of_getElem? (i := 97) rfl)) rfl⟩⟩
set_option maxRecDepth 20000 in
theorem q_L_51 {nm : String} : zCv (m_L nm) 51 m_X7_down 7 0 := ⟨⟨cc_X7_down.1, cc_X7_down.2.1, cc_X7_down.2.2.1, cc_X7_down.2.2.2, ⟨Nat.le_of_ble_eq_true rfl, Nat.le_of_ble_eq_true rfl⟩⟩, in_g (up_3 (List.mem_of_getElem? (i := 35) rfl)) rfl, in_g (up_3 (List.mem_of_getElem? (i := 36) rfl)) rfl, ⟨_, _, _, rfl, in_g (up_3 (List.mem_of_getElem? (i := 37) rfl)) rfl⟩⟩
set_option maxRecDepth 20000 in
theorem q_L_54 {nm : String} : zCv (m_L nm) 54 m_X8_down 8 0 := ⟨⟨cc_X8_down.1, cc_X8_down.2.1, cc_X8_down.2.2.1, cc_X8_down.2.2.2, ⟨Nat.le_of_ble_eq_true rfl, Nat.le_of_ble_eq_true rfl⟩⟩, in_g (up_5 (List.mem_of_getElem? (i := 127) rfl)) rfl, in_g (up_5 (List.mem_of_getElem? (i := 128) rfl)) rfl, ⟨_, _, _, rfl, in_g (up_5 (List.mem_of_getElem? (i := 129) rfl)) rfl⟩⟩
set_option maxRecDepth 20000 in
theorem q_L_55 {nm : String} : zCv (m_L nm) 55 m_X7_read 7 0 := ⟨⟨cc_X7_read.1, cc_X7_read.2.1, cc_X7_read.2.2.1, cc_X7_read.2.2.2, ⟨Nat.le_of_ble_eq_true rfl, Nat.le_of_ble_eq_true rfl⟩⟩, in_g (up_3 (List.mem_of_getElem? (i := 51) rfl)) rfl, in_g (up_3 (List.mem_of_getElem? (i := 52) rfl)) rfl, ⟨_, _, _, rfl, in_g (up_3 (List.mem_of_getElem? (i := 53) rfl)) rfl⟩⟩
set_option maxRecDepth 20000 in
theorem q_L_58 {nm : String} : zCv (m_L nm) 58 m_X8_read 8 0 := ⟨⟨cc_X8_read.1, cc_X8_read.2.1, cc_X8_read.2.2.1, cc_X8_read.2.2.2, ⟨Nat.le_of_ble_eq_true rfl, Nat.le_of_ble_eq_true rfl⟩⟩, in_g (up_5 (List.mem_of_getElem? (i := 147) rfl)) rfl, in_g (up_5 (List.mem_of_getElem? (i := 148) rfl)) rfl, ⟨_, _, _, rfl, in_g (up_5 (List.mem_of_getElem? (i := 149) rfl)) rfl⟩⟩
set_option maxRecDepth 20000 in
theorem q_L_59 {nm : String} : zCv (m_L nm) 59 m_X7_line 7 1 := ⟨⟨cc_X7_line.1, cc_X7_line.2.1, cc_X7_line.2.2.1, cc_X7_line.2.2.2, ⟨Nat.le_of_ble_eq_true rfl, Nat.le_of_ble_eq_true rfl⟩⟩, in_g (up_3 (List.mem_of_getElem? (i := 66) rfl)) rfl, in_g (up_3 (List.mem_of_getElem? (i := 67) rfl)) rfl, ⟨_, _, _, rfl, in_g (up_3 (List.mem_of_getElem? (i := 68) rfl)) rfl⟩⟩
set_option maxRecDepth 20000 in
theorem q_L_62 {nm : String} : zCv (m_L nm) 62 m_X8_line 8 1 := ⟨⟨cc_X8_line.1, cc_X8_line.2.1, cc_X8_line.2.2.1, cc_X8_line.2.2.2, ⟨Nat.le_of_ble_eq_true rfl, Nat.le_of_ble_eq_true rfl⟩⟩, in_g (up_5 (List.mem_of_getElem? (i := 159) rfl)) rfl, in_g (up_5 (List.mem_of_getElem? (i := 160) rfl)) rfl, ⟨_, _, _, rfl, in_g (up_5 (List.mem_of_getElem? (i := 161) rfl)) rfl⟩⟩
set_option maxRecDepth 20000 in
theorem q_L_63 {nm : String} : zCv (m_L nm) 63 m_X7_now 7 1 := ⟨⟨cc_X7_now.1, cc_X7_now.2.1, cc_X7_now.2.2.1, cc_X7_now.2.2.2, ⟨Nat.le_of_ble_eq_true rfl, Nat.le_of_ble_eq_true rfl⟩⟩, in_g (up_3 (List.mem_of_getElem? (i := 73) rfl)) rfl, in_g (up_3 (List.mem_of_getElem? (i := 74) rfl)) rfl, ⟨_, _, _, rfl, in_g (up_3 (List.mem_of_getElem? (i := 75) rfl)) rfl⟩⟩
set_option maxRecDepth 20000 in
theorem q_L_67 {nm : String} : zCv (m_L nm) 67 m_X8_now 8 1 := ⟨⟨cc_X8_now.1, cc_X8_now.2.1, cc_X8_now.2.2.1, cc_X8_now.2.2.2, ⟨Nat.le_of_ble_eq_true rfl, Nat.le_of_ble_eq_true rfl⟩⟩, in_g (up_5 (List.mem_of_getElem? (i := 164) rfl)) rfl, in_g (up_5 (List.mem_of_getElem? (i := 165) rfl)) rfl, ⟨_, _, _, rfl, in_g (up_5 (List.mem_of_getElem? (i := 166) rfl)) rfl⟩⟩
set_option maxRecDepth 20000 in
theorem q_L_68 {nm : String} : zCv (m_L nm) 68 m_X7_clear 7 0 := ⟨⟨cc_X7_clear.1, cc_X7_clear.2.1, cc_X7_clear.2.2.1, cc_X7_clear.2.2.2, ⟨Nat.le_of_ble_eq_true rfl, Nat.le_of_ble_eq_true rfl⟩⟩, in_g (up_3 (List.mem_of_getElem? (i := 82) rfl)) rfl, in_g (up_3 (List.mem_of_getElem? (i := 83) rfl)) rfl, ⟨_, _, _, rfl, in_g (up_3 (List.mem_of_getElem? (i := 84) rfl)) rfl⟩⟩
set_option maxRecDepth 20000 in
theorem q_L_71 {nm : String} : zCv (m_L nm) 71 m_X8_clear 8 0 := ⟨⟨cc_X8_clear.1, cc_X8_clear.2.1, cc_X8_clear.2.2.1, cc_X8_clear.2.2.2, ⟨Nat.le_of_ble_eq_true rfl, Nat.le_of_ble_eq_true rfl⟩⟩, in_g (up_5 (List.mem_of_getElem? (i := 172) rfl)) rfl, in_g (up_5 (List.mem_of_getElem? (i := 173) rfl)) rfl, ⟨_, _, _, rfl, in_g (up_5 (List.mem_of_getElem? (i := 174) rfl)) rfl⟩⟩
set_option maxRecDepth 20000 in
theorem q_L_72 {nm : String} : zCv (m_L nm) 72 m_X7_picture 7 4 := ⟨⟨cc_X7_picture.1, cc_X7_picture.2.1, cc_X7_picture.2.2.1, cc_X7_picture.2.2.2, ⟨Nat.le_of_ble_eq_true rfl, Nat.le_of_ble_eq_true rfl⟩⟩, in_g (up_3 (List.mem_of_getElem? (i := 86) rfl)) rfl, in_g (up_3 (List.mem_of_getElem? (i := 87) rfl)) rfl, ⟨_, _, _, rfl, in_g (up_3 (List.mem_of_getElem? (i := 88) rfl)) rfl⟩⟩
set_option maxRecDepth 20000 in
theorem q_L_76 {nm : String} : zCv (m_L nm) 76 m_X8_picture 8 4 := ⟨⟨cc_X8_picture.1, cc_X8_picture.2.1, cc_X8_picture.2.2.1, cc_X8_picture.2.2.2, ⟨Nat.le_of_ble_eq_true rfl, Nat.le_of_ble_eq_true rfl⟩⟩, in_g (up_5 (List.mem_of_getElem? (i := 176) rfl)) rfl, in_g (up_5 (List.mem_of_getElem? (i := 177) rfl)) rfl, ⟨_, _, _, rfl, in_g (up_5 (List.mem_of_getElem? (i := 178) rfl)) rfl⟩⟩
set_option maxRecDepth 20000 in
theorem q_L_77 {nm : String} : zCv (m_L nm) 77 m_X7_shades 7 3 := ⟨⟨cc_X7_shades.1, cc_X7_shades.2.1, cc_X7_shades.2.2.1, cc_X7_shades.2.2.2, ⟨Nat.le_of_ble_eq_true rfl, Nat.le_of_ble_eq_true rfl⟩⟩, in_g (up_3 (List.mem_of_getElem? (i := 115) rfl)) rfl, in_g (up_3 (List.mem_of_getElem? (i := 116) rfl)) rfl, ⟨_, _, _, rfl, in_g (up_3 (List.mem_of_getElem? (i := 117) rfl)) rfl⟩⟩
set_option maxRecDepth 20000 in
theorem q_L_81 {nm : String} : zCv (m_L nm) 81 m_X8_shades 8 3 := ⟨⟨cc_X8_shades.1, cc_X8_shades.2.1, cc_X8_shades.2.2.1, cc_X8_shades.2.2.2, ⟨Nat.le_of_ble_eq_true rfl, Nat.le_of_ble_eq_true rfl⟩⟩, in_g (up_5 (List.mem_of_getElem? (i := 192) rfl)) rfl, in_g (up_5 (List.mem_of_getElem? (i := 193) rfl)) rfl, ⟨_, _, _, rfl, in_g (up_5 (List.mem_of_getElem? (i := 194) rfl)) rfl⟩⟩
set_option maxRecDepth 20000 in
theorem q_L_82 {nm : String} : zCv (m_L nm) 82 m_X7_late 7 1 := ⟨⟨cc_X7_late.1, cc_X7_late.2.1, cc_X7_late.2.2.1, cc_X7_late.2.2.2, ⟨Nat.le_of_ble_eq_true rfl, Nat.le_of_ble_eq_true rfl⟩⟩, in_g (up_3 (List.mem_of_getElem? (i := 140) rfl)) rfl, in_g (up_3 (List.mem_of_getElem? (i := 141) rfl)) rfl, ⟨_, _, _, rfl, in_g (up_3 (List.mem_of_getElem? (i := 142) rfl)) rfl⟩⟩
set_option maxRecDepth 20000 in
theorem q_L_85 {nm : String} : zCv (m_L nm) 85 m_X8_late 8 1 := ⟨⟨cc_X8_late.1, cc_X8_late.2.1, cc_X8_late.2.2.1, cc_X8_late.2.2.2, ⟨Nat.le_of_ble_eq_true rfl, Nat.le_of_ble_eq_true rfl⟩⟩, in_g (up_5 (List.mem_of_getElem? (i := 196) rfl)) rfl, in_g (up_5 (List.mem_of_getElem? (i := 197) rfl)) rfl, ⟨_, _, _, rfl, in_g (up_5 (List.mem_of_getElem? (i := 198) rfl)) rfl⟩⟩
set_option maxRecDepth 20000 in
theorem q_L_86 {nm : String} : zCv (m_L nm) 86 m_X7_smear 7 1 := ⟨⟨cc_X7_smear.1, cc_X7_smear.2.1, cc_X7_smear.2.2.1, cc_X7_smear.2.2.2, ⟨Nat.le_of_ble_eq_true rfl, Nat.le_of_ble_eq_true rfl⟩⟩, in_g (up_3 (List.mem_of_getElem? (i := 144) rfl)) rfl, in_g (up_3 (List.mem_of_getElem? (i := 145) rfl)) rfl, ⟨_, _, _, rfl, in_g (up_3 (List.mem_of_getElem? (i := 146) rfl)) rfl⟩⟩
set_option maxRecDepth 20000 in
theorem q_L_89 {nm : String} : zCv (m_L nm) 89 m_X8_smear 8 1 := ⟨⟨cc_X8_smear.1, cc_X8_smear.2.1, cc_X8_smear.2.2.1, cc_X8_smear.2.2.2, ⟨Nat.le_of_ble_eq_true rfl, Nat.le_of_ble_eq_true rfl⟩⟩, in_g (up_5 (List.mem_of_getElem? (i := 200) rfl)) rfl, in_g (up_5 (List.mem_of_getElem? (i := 201) rfl)) rfl, ⟨_, _, _, rfl, in_g (up_5 (List.mem_of_getElem? (i := 202) rfl)) rfl⟩⟩
set_option maxRecDepth 20000 in
theorem q_L_90 {nm : String} : zCv (m_L nm) 90 m_X7_spoiled 7 1 := ⟨⟨cc_X7_spoiled.1, cc_X7_spoiled.2.1, cc_X7_spoiled.2.2.1, cc_X7_spoiled.2.2.2, ⟨Nat.le_of_ble_eq_true rfl, Nat.le_of_ble_eq_true rfl⟩⟩, in_g (up_3 (List.mem_of_getElem? (i := 148) rfl)) rfl, in_g (up_3 (List.mem_of_getElem? (i := 149) rfl)) rfl, ⟨_, _, _, rfl, in_g (up_3 (List.mem_of_getElem? (i := 150) rfl)) rfl⟩⟩
set_option maxRecDepth 20000 in
theorem q_L_93 {nm : String} : zCv (m_L nm) 93 m_X8_spoiled 8 1 := ⟨⟨cc_X8_spoiled.1, cc_X8_spoiled.2.1, cc_X8_spoiled.2.2.1, cc_X8_spoiled.2.2.2, ⟨Nat.le_of_ble_eq_true rfl, Nat.le_of_ble_eq_true rfl⟩⟩, in_g (up_5 (List.mem_of_getElem? (i := 204) rfl)) rfl, in_g (up_5 (List.mem_of_getElem? (i := 205) rfl)) rfl, ⟨_, _, _, rfl, in_g (up_5 (List.mem_of_getElem? (i := 206) rfl)) rfl⟩⟩
set_option maxRecDepth 20000 in
theorem q_L_94 {nm : String} : zCv (m_L nm) 94 m_X7_full 7 1 := ⟨⟨cc_X7_full.1, cc_X7_full.2.1, cc_X7_full.2.2.1, cc_X7_full.2.2.2, ⟨Nat.le_of_ble_eq_true rfl, Nat.le_of_ble_eq_true rfl⟩⟩, in_g (up_3 (List.mem_of_getElem? (i := 155) rfl)) rfl, in_g (up_3 (List.mem_of_getElem? (i := 156) rfl)) rfl, ⟨_, _, _, rfl, in_g (up_3 (List.mem_of_getElem? (i := 157) rfl)) rfl⟩⟩
set_option maxRecDepth 20000 in
theorem q_L_97 {nm : String} : zCv (m_L nm) 97 m_X8_full 8 1 := ⟨⟨cc_X8_full.1, cc_X8_full.2.1, cc_X8_full.2.2.1, cc_X8_full.2.2.2, ⟨Nat.le_of_ble_eq_true rfl, Nat.le_of_ble_eq_true rfl⟩⟩, in_g (up_5 (List.mem_of_getElem? (i := 208) rfl)) rfl, in_g (up_5 (List.mem_of_getElem? (i := 209) rfl)) rfl, ⟨_, _, _, rfl, in_g (up_5 (List.mem_of_getElem? (i := 210) rfl)) rfl⟩⟩
set_option maxRecDepth 20000 in
theorem q_L_98 {nm : String} : zCv (m_L nm) 98 m_X7_longest 7 0 := ⟨⟨cc_X7_longest.1, cc_X7_longest.2.1, cc_X7_longest.2.2.1, cc_X7_longest.2.2.2, ⟨Nat.le_of_ble_eq_true rfl, Nat.le_of_ble_eq_true rfl⟩⟩, in_g (up_3 (List.mem_of_getElem? (i := 163) rfl)) rfl, in_g (up_3 (List.mem_of_getElem? (i := 164) rfl)) rfl, ⟨_, _, _, rfl, in_g (up_3 (List.mem_of_getElem? (i := 165) rfl)) rfl⟩⟩
set_option maxRecDepth 20000 in
theorem q_L_101 {nm : String} : zCv (m_L nm) 101 m_X8_longest 8 0 := ⟨⟨cc_X8_longest.1, cc_X8_longest.2.1, cc_X8_longest.2.2.1, cc_X8_longest.2.2.2, ⟨Nat.le_of_ble_eq_true rfl, Nat.le_of_ble_eq_true rfl⟩⟩, in_g (up_5 (List.mem_of_getElem? (i := 212) rfl)) rfl, in_g (up_5 (List.mem_of_getElem? (i := 213) rfl)) rfl, ⟨_, _, _, rfl, in_g (up_5 (List.mem_of_getElem? (i := 214) rfl)) rfl⟩⟩
set_option maxRecDepth 20000 in
theorem q_L_102 {nm : String} : zCv (m_L nm) 102 m_X7_enough 7 1 := ⟨⟨cc_X7_enough.1, cc_X7_enough.2.1, cc_X7_enough.2.2.1, cc_X7_enough.2.2.2, ⟨Nat.le_of_ble_eq_true rfl, Nat.le_of_ble_eq_true rfl⟩⟩, in_g (up_3 (List.mem_of_getElem? (i := 167) rfl)) rfl, in_g (up_3 (List.mem_of_getElem? (i := 168) rfl)) rfl, ⟨_, _, _, rfl, in_g (up_3 (List.mem_of_getElem? (i := 169) rfl)) rfl⟩⟩
set_option maxRecDepth 20000 in
theorem q_L_105 {nm : String} : zCv (m_L nm) 105 m_X8_enough 8 1 := ⟨⟨cc_X8_enough.1, cc_X8_enough.2.1, cc_X8_enough.2.2.1, cc_X8_enough.2.2.2, ⟨Nat.le_of_ble_eq_true rfl, Nat.le_of_ble_eq_true rfl⟩⟩, in_g (up_5 (List.mem_of_getElem? (i := 216) rfl)) rfl, in_g (up_5 (List.mem_of_getElem? (i := 217) rfl)) rfl, ⟨_, _, _, rfl, in_g (up_5 (List.mem_of_getElem? (i := 218) rfl)) rfl⟩⟩
set_option maxRecDepth 20000 in
theorem q_L_106 {nm : String} : zCv (m_L nm) 106 m_X7_hots 7 2 := ⟨⟨cc_X7_hots.1, cc_X7_hots.2.1, cc_X7_hots.2.2.1, cc_X7_hots.2.2.2, ⟨Nat.le_of_ble_eq_true rfl, Nat.le_of_ble_eq_true rfl⟩⟩, in_g (up_3 (List.mem_of_getElem? (i := 172) rfl)) rfl, in_g (up_3 (List.mem_of_getElem? (i := 173) rfl)) rfl, ⟨_, _, _, rfl, in_g (up_3 (List.mem_of_getElem? (i := 174) rfl)) rfl⟩⟩
set_option maxRecDepth 20000 in
theorem q_L_110 {nm : String} : zCv (m_L nm) 110 m_X8_hots 8 2 := ⟨⟨cc_X8_hots.1, cc_X8_hots.2.1, cc_X8_hots.2.2.1, cc_X8_hots.2.2.2, ⟨Nat.le_of_ble_eq_true rfl, Nat.le_of_ble_eq_true rfl⟩⟩, in_g (up_5 (List.mem_of_getElem? (i := 221) rfl)) rfl, in_g (up_5 (List.mem_of_getElem? (i := 222) rfl)) rfl, ⟨_, _, _, rfl, in_g (up_5 (List.mem_of_getElem? (i := 223) rfl)) rfl⟩⟩
set_option maxRecDepth 20000 in
theorem q_L_111 {nm : String} : zCv (m_L nm) 111 m_X7_mended 7 1 := ⟨⟨cc_X7_mended.1, cc_X7_mended.2.1, cc_X7_mended.2.2.1, cc_X7_mended.2.2.2, ⟨Nat.le_of_ble_eq_true rfl, Nat.le_of_ble_eq_true rfl⟩⟩, in_g (up_3 (List.mem_of_getElem? (i := 176) rfl)) rfl, in_g (up_3 (List.mem_of_getElem? (i := 177) rfl)) rfl, ⟨_, _, _, rfl, in_g (up_3 (List.mem_of_getElem? (i := 178) rfl)) rfl⟩⟩
set_option maxRecDepth 20000 in
theorem q_L_114 {nm : String} : zCv (m_L nm) 114 m_X8_mended 8 1 := ⟨⟨cc_X8_mended.1, cc_X8_mended.2.1, cc_X8_mended.2.2.1, cc_X8_mended.2.2.2, ⟨Nat.le_of_ble_eq_true rfl, Nat.le_of_ble_eq_true rfl⟩⟩, in_g (up_5 (List.mem_of_getElem? (i := 226) rfl)) rfl, in_g (up_5 (List.mem_of_getElem? (i := 227) rfl)) rfl, ⟨_, _, _, rfl, in_g (up_5 (List.mem_of_getElem? (i := 228) rfl)) rfl⟩⟩
set_option maxRecDepth 20000 in
theorem q_L_115 {nm : String} : zCv (m_L nm) 115 m_X7_word 7 1 := ⟨⟨cc_X7_word.1, cc_X7_word.2.1, cc_X7_word.2.2.1, cc_X7_word.2.2.2, ⟨Nat.le_of_ble_eq_true rfl, Nat.le_of_ble_eq_true rfl⟩⟩, in_g (up_3 (List.mem_of_getElem? (i := 183) rfl)) rfl, in_g (up_3 (List.mem_of_getElem? (i := 184) rfl)) rfl, ⟨_, _, _, rfl, in_g (up_3 (List.mem_of_getElem? (i := 185) rfl)) rfl⟩⟩
set_option maxRecDepth 20000 in
theorem q_L_118 {nm : String} : zCv (m_L nm) 118 m_X8_word 8 1 := ⟨⟨cc_X8_word.1, cc_X8_word.2.1, cc_X8_word.2.2.1, cc_X8_word.2.2.2, ⟨Nat.le_of_ble_eq_true rfl, Nat.le_of_ble_eq_true rfl⟩⟩, in_g (up_5 (List.mem_of_getElem? (i := 230) rfl)) rfl, in_g (up_5 (List.mem_of_getElem? (i := 231) rfl)) rfl, ⟨_, _, _, rfl, in_g (up_5 (List.mem_of_getElem? (i := 232) rfl)) rfl⟩⟩
set_option maxRecDepth 20000 in
theorem q_L_119 {nm : String} : zCv (m_L nm) 119 m_X7_still 7 0 := ⟨⟨cc_X7_still.1, cc_X7_still.2.1, cc_X7_still.2.2.1, cc_X7_still.2.2.2, ⟨Nat.le_of_ble_eq_true rfl, Nat.le_of_ble_eq_true rfl⟩⟩, in_g (up_3 (List.mem_of_getElem? (i := 195) rfl)) rfl, in_g (up_3 (List.mem_of_getElem? (i := 196) rfl)) rfl, ⟨_, _, _, rfl, in_g (up_3 (List.mem_of_getElem? (i := 197) rfl)) rfl⟩⟩
set_option maxRecDepth 20000 in
theorem q_L_122 {nm : String} : zCv (m_L nm) 122 m_X8_still 8 0 := ⟨⟨cc_X8_still.1, cc_X8_still.2.1, cc_X8_still.2.2.1, cc_X8_still.2.2.2, ⟨Nat.le_of_ble_eq_true rfl, Nat.le_of_ble_eq_true rfl⟩⟩, in_g (up_6 (List.mem_of_getElem? (i := 2) rfl)) rfl, in_g (up_6 (List.mem_of_getElem? (i := 3) rfl)) rfl, ⟨_, _, _, rfl, in_g (up_6 (List.mem_of_getElem? (i := 4) rfl)) rfl⟩⟩
set_option maxRecDepth 20000 in
theorem q_L_123 {nm : String} : zCv (m_L nm) 123 m_X7_words 7 1 := ⟨⟨cc_X7_words.1, cc_X7_words.2.1, cc_X7_words.2.2.1, cc_X7_words.2.2.2, ⟨Nat.le_of_ble_eq_true rfl, Nat.le_of_ble_eq_true rfl⟩⟩, in_g (up_3 (List.mem_of_getElem? (i := 199) rfl)) rfl, in_g (up_3 (List.mem_of_getElem? (i := 200) rfl)) rfl, ⟨_, _, _, rfl, in_g (up_3 (List.mem_of_getElem? (i := 201) rfl)) rfl⟩⟩
set_option maxRecDepth 20000 in
theorem q_L_126 {nm : String} : zCv (m_L nm) 126 m_X8_words 8 1 := ⟨⟨cc_X8_words.1, cc_X8_words.2.1, cc_X8_words.2.2.1, cc_X8_words.2.2.2, ⟨Nat.le_of_ble_eq_true rfl, Nat.le_of_ble_eq_true rfl⟩⟩, in_g (up_6 (List.mem_of_getElem? (i := 6) rfl)) rfl, in_g (up_6 (List.mem_of_getElem? (i := 7) rfl)) rfl, ⟨_, _, _, rfl, in_g (up_6 (List.mem_of_getElem? (i := 8) rfl)) rfl⟩⟩
set_option maxRecDepth 20000 in
theorem q_L_127 {nm : String} : zCv (m_L nm) 127 m_X7_clock 7 1 := ⟨⟨cc_X7_clock.1, cc_X7_clock.2.1, cc_X7_clock.2.2.1, cc_X7_clock.2.2.2, ⟨Nat.le_of_ble_eq_true rfl, Nat.le_of_ble_eq_true rfl⟩⟩, in_g (up_3 (List.mem_of_getElem? (i := 203) rfl)) rfl, in_g (up_3 (List.mem_of_getElem? (i := 204) rfl)) rfl, ⟨_, _, _, rfl, in_g (up_3 (List.mem_of_getElem? (i := 205) rfl)) rfl⟩⟩
set_option maxRecDepth 20000 in
theorem q_L_130 {nm : String} : zCv (m_L nm) 130 m_X8_clock 8 1 := ⟨⟨cc_X8_clock.1, cc_X8_clock.2.1, cc_X8_clock.2.2.1, cc_X8_clock.2.2.2, ⟨Nat.le_of_ble_eq_true rfl, Nat.le_of_ble_eq_true rfl⟩⟩, in_g (up_6 (List.mem_of_getElem? (i := 10) rfl)) rfl, in_g (up_6 (List.mem_of_getElem? (i := 11) rfl)) rfl, ⟨_, _, _, rfl, in_g (up_6 (List.mem_of_getElem? (i := 12) rfl)) rfl⟩⟩
set_option maxRecDepth 20000 in
theorem q_L_131 {nm : String} : zCv (m_L nm) 131 m_X7_goes 7 2 := ⟨⟨cc_X7_goes.1, cc_X7_goes.2.1, cc_X7_goes.2.2.1, cc_X7_goes.2.2.2, ⟨Nat.le_of_ble_eq_true rfl, Nat.le_of_ble_eq_true rfl⟩⟩, in_g (up_4 (List.mem_of_getElem? (i := 27) rfl)) rfl, in_g (up_4 (List.mem_of_getElem? (i := 28) rfl)) rfl, ⟨_, _, _, rfl, in_g (up_4 (List.mem_of_getElem? (i := 29) rfl)) rfl⟩⟩
set_option maxRecDepth 20000 in
theorem q_L_134 {nm : String} : zCv (m_L nm) 134 m_X8_goes 8 2 := ⟨⟨cc_X8_goes.1, cc_X8_goes.2.1, cc_X8_goes.2.2.1, cc_X8_goes.2.2.2, ⟨Nat.le_of_ble_eq_true rfl, Nat.le_of_ble_eq_true rfl⟩⟩, in_g (up_6 (List.mem_of_getElem? (i := 47) rfl)) rfl, in_g (up_6 (List.mem_of_getElem? (i := 48) rfl)) rfl, ⟨_, _, _, rfl, in_g (up_6 (List.mem_of_getElem? (i := 49) rfl)) rfl⟩⟩
set_option maxRecDepth 20000 in
theorem q_L_135 {nm : String} : zCv (m_L nm) 135 m_X7_fewest 7 1 := ⟨⟨cc_X7_fewest.1, cc_X7_fewest.2.1, cc_X7_fewest.2.2.1, cc_X7_fewest.2.2.2, ⟨Nat.le_of_ble_eq_true rfl, Nat.le_of_ble_eq_true rfl⟩⟩, in_g (up_4 (List.mem_of_getElem? (i := 33) rfl)) rfl, in_g (up_4 (List.mem_of_getElem? (i := 34) rfl)) rfl, ⟨_, _, _, rfl, in_g (up_4 (List.mem_of_getElem? (i := 35) rfl)) rfl⟩⟩
set_option maxRecDepth 20000 in
theorem q_L_138 {nm : String} : zCv (m_L nm) 138 m_X8_fewest 8 1 := ⟨⟨cc_X8_fewest.1, cc_X8_fewest.2.1, cc_X8_fewest.2.2.1, cc_X8_fewest.2.2.2, ⟨Nat.le_of_ble_eq_true rfl, Nat.le_of_ble_eq_true rfl⟩⟩, in_g (up_6 (List.mem_of_getElem? (i := 51) rfl)) rfl, in_g (up_6 (List.mem_of_getElem? (i := 52) rfl)) rfl, ⟨_, _, _, rfl, in_g (up_6 (List.mem_of_getElem? (i := 53) rfl)) rfl⟩⟩
set_option maxRecDepth 20000 in
theorem q_L_139 {nm : String} : zCv (m_L nm) 139 m_X7_rounds 7 3 := ⟨⟨cc_X7_rounds.1, cc_X7_rounds.2.1, cc_X7_rounds.2.2.1, cc_X7_rounds.2.2.2, ⟨Nat.le_of_ble_eq_true rfl, Nat.le_of_ble_eq_true rfl⟩⟩, in_g (up_4 (List.mem_of_getElem? (i := 54) rfl)) rfl, in_g (up_4 (List.mem_of_getElem? (i := 55) rfl)) rfl, ⟨_, _, _, rfl, in_g (up_4 (List.mem_of_getElem? (i := 56) rfl)) rfl⟩⟩
set_option maxRecDepth 20000 in
theorem q_L_143 {nm : String} : zCv (m_L nm) 143 m_X8_rounds 8 3 := ⟨⟨cc_X8_rounds.1, cc_X8_rounds.2.1, cc_X8_rounds.2.2.1, cc_X8_rounds.2.2.2, ⟨Nat.le_of_ble_eq_true rfl, Nat.le_of_ble_eq_true rfl⟩⟩, in_g (up_6 (List.mem_of_getElem? (i := 63) rfl)) rfl, in_g (up_6 (List.mem_of_getElem? (i := 64) rfl)) rfl, ⟨_, _, _, rfl, in_g (up_6 (List.mem_of_getElem? (i := 65) rfl)) rfl⟩⟩
set_option maxRecDepth 20000 in
theorem q_L_144 {nm : String} : zCv (m_L nm) 144 m_X7_keep 7 1 := ⟨⟨cc_X7_keep.1, cc_X7_keep.2.1, cc_X7_keep.2.2.1, cc_X7_keep.2.2.2, ⟨Nat.le_of_ble_eq_true rfl, Nat.le_of_ble_eq_true rfl⟩⟩, in_g (up_4 (List.mem_of_getElem? (i := 58) rfl)) rfl, in_g (up_4 (List.mem_of_getElem? (i := 59) rfl)) rfl, ⟨_, _, _, rfl, in_g (up_4 (List.mem_of_getElem? (i := 60) rfl)) rfl⟩⟩
set_option maxRecDepth 20000 in
theorem q_L_147 {nm : String} : zCv (m_L nm) 147 m_X8_keep 8 1 := ⟨⟨cc_X8_keep.1, cc_X8_keep.2.1, cc_X8_keep.2.2.1, cc_X8_keep.2.2.2, ⟨Nat.le_of_ble_eq_true rfl, Nat.le_of_ble_eq_true rfl⟩⟩, in_g (up_6 (List.mem_of_getElem? (i := 69) rfl)) rfl, in_g (up_6 (List.mem_of_getElem? (i := 70) rfl)) rfl, ⟨_, _, _, rfl, in_g (up_6 (List.mem_of_getElem? (i := 71) rfl)) rfl⟩⟩
set_option maxRecDepth 20000 in
theorem q_L_148 {nm : String} : zCv (m_L nm) 148 m_X7_back 7 1 := ⟨⟨cc_X7_back.1, cc_X7_back.2.1, cc_X7_back.2.2.1, cc_X7_back.2.2.2, ⟨Nat.le_of_ble_eq_true rfl, Nat.le_of_ble_eq_true rfl⟩⟩, in_g (up_4 (List.mem_of_getElem? (i := 63) rfl)) rfl, in_g (up_4 (List.mem_of_getElem? (i := 64) rfl)) rfl, ⟨_, _, _, rfl, in_g (up_4 (List.mem_of_getElem? (i := 65) rfl)) rfl⟩⟩
set_option maxRecDepth 20000 in
theorem q_L_151 {nm : String} : zCv (m_L nm) 151 m_X8_back 8 1 := ⟨⟨cc_X8_back.1, cc_X8_back.2.1, cc_X8_back.2.2.1, cc_X8_back.2.2.2, ⟨Nat.le_of_ble_eq_true rfl, Nat.le_of_ble_eq_true rfl⟩⟩, in_g (up_6 (List.mem_of_getElem? (i := 73) rfl)) rfl, in_g (up_6 (List.mem_of_getElem? (i := 74) rfl)) rfl, ⟨_, _, _, rfl, in_g (up_6 (List.mem_of_getElem? (i := 75) rfl)) rfl⟩⟩
set_option maxRecDepth 20000 in
theorem q_L_152 {nm : String} : zCv (m_L nm) 152 m_X7_sheet 7 3 := ⟨⟨cc_X7_sheet.1, cc_X7_sheet.2.1, cc_X7_sheet.2.2.1, cc_X7_sheet.2.2.2, ⟨Nat.le_of_ble_eq_true rfl, Nat.le_of_ble_eq_true rfl⟩⟩, in_g (up_4 (List.mem_of_getElem? (i := 67) rfl)) rfl, in_g (up_4 (List.mem_of_getElem? (i := 68) rfl)) rfl, ⟨_, _, _, rfl, in_g (up_4 (List.mem_of_getElem? (i := 69) rfl)) rfl⟩⟩
set_option maxRecDepth 20000 in
theorem q_L_155 {nm : String} : zCv (m_L nm) 155 m_X8_sheet 8 3 := ⟨⟨cc_X8_sheet.1, cc_X8_sheet.2.1, cc_X8_sheet.2.2.1, cc_X8_sheet.2.2.2, ⟨Nat.le_of_ble_eq_true rfl, Nat.le_of_ble_eq_true rfl⟩⟩, in_g (up_6 (List.mem_of_getElem? (i := 77) rfl)) rfl, in_g (up_6 (List.mem_of_getElem? (i := 78) rfl)) rfl, ⟨_, _, _, rfl, in_g (up_6 (List.mem_of_getElem? (i := 79) rfl)) rfl⟩⟩
set_option maxRecDepth 20000 in
theorem q_L_156 {nm : String} : zCv (m_L nm) 156 m_X7_lay 7 3 := ⟨⟨cc_X7_lay.1, cc_X7_lay.2.1, cc_X7_lay.2.2.1, cc_X7_lay.2.2.2, ⟨Nat.le_of_ble_eq_true rfl, Nat.le_of_ble_eq_true rfl⟩⟩, in_g (up_4 (List.mem_of_getElem? (i := 82) rfl)) rfl, in_g (up_4 (List.mem_of_getElem? (i := 83) rfl)) rfl, ⟨_, _, _, rfl, in_g (up_4 (List.mem_of_getElem? (i := 84) rfl)) rfl⟩⟩
set_option maxRecDepth 20000 in
theorem q_L_159 {nm : String} : zCv (m_L nm) 159 m_X8_lay 8 3 := ⟨⟨cc_X8_lay.1, cc_X8_lay.2.1, cc_X8_lay.2.2.1, cc_X8_lay.2.2.2, ⟨Nat.le_of_ble_eq_true rfl, Nat.le_of_ble_eq_true rfl⟩⟩, in_g (up_6 (List.mem_of_getElem? (i := 84) rfl)) rfl, in_g (up_6 (List.mem_of_getElem? (i := 85) rfl)) rfl, ⟨_, _, _, rfl, in_g (up_6 (List.mem_of_getElem? (i := 86) rfl)) rfl⟩⟩
set_option maxRecDepth 20000 in
theorem q_L_160 {nm : String} : zCv (m_L nm) 160 m_X7_reads 7 4 := ⟨⟨cc_X7_reads.1, cc_X7_reads.2.1, cc_X7_reads.2.2.1, cc_X7_reads.2.2.2, ⟨Nat.le_of_ble_eq_true rfl, Nat.le_of_ble_eq_true rfl⟩⟩, in_g (up_4 (List.mem_of_getElem? (i := 94) rfl)) rfl, in_g (up_4 (List.mem_of_getElem? (i := 95) rfl)) rfl, ⟨_, _, _, rfl, in_g (up_4 (List.mem_of_getElem? (i := 96) rfl)) rfl⟩⟩
set_option maxRecDepth 20000 in
theorem q_L_163 {nm : String} : zCv (m_L nm) 163 m_X8_reads 8 4 := ⟨⟨cc_X8_reads.1, cc_X8_reads.2.1, cc_X8_reads.2.2.1, cc_X8_reads.2.2.2, ⟨Nat.le_of_ble_eq_true rfl, Nat.le_of_ble_eq_true rfl⟩⟩, in_g (up_6 (List.mem_of_getElem? (i := 88) rfl)) rfl, in_g (up_6 (List.mem_of_getElem? (i := 89) rfl)) rfl, ⟨_, _, _, rfl, in_g (up_6 (List.mem_of_getElem? (i := 90) rfl)) rfl⟩⟩
set_option maxRecDepth 20000 in
theorem q_L_164 {nm : String} : zCv (m_L nm) 164 m_X7_torn 7 0 := ⟨⟨cc_X7_torn.1, cc_X7_torn.2.1, cc_X7_torn.2.2.1, cc_X7_torn.2.2.2, ⟨Nat.le_of_ble_eq_true rfl, Nat.le_of_ble_eq_true rfl⟩⟩, in_g (up_4 (List.mem_of_getElem? (i := 103) rfl)) rfl, in_g (up_4 (List.mem_of_getElem? (i := 104) rfl)) rfl, ⟨_, _, _, rfl, in_g (up_4 (List.mem_of_getElem? (i := 105) rfl)) rfl⟩⟩
set_option maxRecDepth 20000 in
theorem q_L_167 {nm : String} : zCv (m_L nm) 167 m_X8_torn 8 0 := ⟨⟨cc_X8_torn.1, cc_X8_torn.2.1, cc_X8_torn.2.2.1, cc_X8_torn.2.2.2, ⟨Nat.le_of_ble_eq_true rfl, Nat.le_of_ble_eq_true rfl⟩⟩, in_g (up_6 (List.mem_of_getElem? (i := 93) rfl)) rfl, in_g (up_6 (List.mem_of_getElem? (i := 94) rfl)) rfl, ⟨_, _, _, rfl, in_g (up_6 (List.mem_of_getElem? (i := 95) rfl)) rfl⟩⟩
set_option maxRecDepth 20000 in
theorem q_L_168 {nm : String} : zCv (m_L nm) 168 m_X7_count 7 1 := ⟨⟨cc_X7_count.1, cc_X7_count.2.1, cc_X7_count.2.2.1, cc_X7_count.2.2.2, ⟨Nat.le_of_ble_eq_true rfl, Nat.le_of_ble_eq_true rfl⟩⟩, in_g (up_4 (List.mem_of_getElem? (i := 107) rfl)) rfl, in_g (up_4 (List.mem_of_getElem? (i := 108) rfl)) rfl, ⟨_, _, _, rfl, in_g (up_4 (List.mem_of_getElem? (i := 109) rfl)) rfl⟩⟩
set_option maxRecDepth 20000 in
theorem q_L_171 {nm : String} : zCv (m_L nm) 171 m_X8_count 8 1 := ⟨⟨cc_X8_count.1, cc_X8_count.2.1, cc_X8_count.2.2.1, cc_X8_count.2.2.2, ⟨Nat.le_of_ble_eq_true rfl, Nat.le_of_ble_eq_true rfl⟩⟩, in_g (up_6 (List.mem_of_getElem? (i := 97) rfl)) rfl, in_g (up_6 (List.mem_of_getElem? (i := 98) rfl)) rfl, ⟨_, _, _, rfl, in_g (up_6 (List.mem_of_getElem? (i := 99) rfl)) rfl⟩⟩
set_option maxRecDepth 20000 in
theorem nw_L_7 {nm : String} : zNw (m_L nm) 7 7 11 := ⟨RX7, TX7, tyX7, rfl, in_X7, tyX7_ok, in_g (up_1 (List.mem_of_getElem? (i := 17) rfl)) rfl, in_g (up_1 (List.mem_of_getElem? (i := 18) rfl)) rfl, in_g (up_1 (List.mem_of_getElem? (i := 1) rfl)) rfl, fun j hj => by rcases (show j = 0 ∨ j = 1 ∨ j = 2 ∨ j = 3 ∨ j = 4 ∨ j = 5 ∨ j = 6 ∨ j = 7 ∨ j = 8 ∨ j = 9 ∨ j = 10 by omega) with rfl | rfl | rfl | rfl | rfl | rfl | rfl | rfl | rfl | rfl | rfl <;> exact ⟨_, rfl, rfl⟩⟩
set_option maxRecDepth 20000 in
theorem nw_L_10 {nm : String} : zNw (m_L nm) 10 8 36 := ⟨RX8, TX8, tyX8, rfl, in_X8, tyX8_ok, in_g (up_4 (List.mem_of_getElem? (i := 114) rfl)) rfl, in_g (up_4 (List.mem_of_getElem? (i := 115) rfl)) rfl, in_g (up_1 (List.mem_of_getElem? (i := 10) rfl)) rfl, fun j hj => by rcases (show j = 0 ∨ j = 1 ∨ j = 2 ∨ j = 3 ∨ j = 4 ∨ j = 5 ∨ j = 6 ∨ j = 7 ∨ j = 8 ∨ j = 9 ∨ j = 10 ∨ j = 11 ∨ j = 12 ∨ j = 13 ∨ j = 14 ∨ j = 15 ∨ j = 16 ∨ j = 17 ∨ j = 18 ∨ j = 19 ∨ j = 20 ∨ j = 21 ∨ j = 22 ∨ j = 23 ∨ j = 24 ∨ j = 25 ∨ j = 26 ∨ j = 27 ∨ j = 28 ∨ j = 29 ∨ j = 30 ∨ j = 31 ∨ j = 32 ∨ j = 33 ∨ j = 34 ∨ j = 35 by omega) with rfl | rfl | rfl | rfl | rfl | rfl | rfl | rfl | rfl | rfl | rfl | rfl | rfl | rfl | rfl | rfl | rfl | rfl | rfl | rfl | rfl | rfl | rfl | rfl | rfl | rfl | rfl | rfl | rfl | rfl | rfl | rfl | rfl | rfl | rfl | rfl <;> exact ⟨_, rfl, rfl⟩⟩
set_option maxRecDepth 20000 in
theorem l_L_13 {nm : String} : Cond.constantLong (m_L nm).1.cls 13 (4294967295) ∈ lw_g := in_g (up_6 (List.mem_of_getElem? (i := 101) rfl)) rfl
