abbrev vwCl : List vw_C := [(RX0, TX0, 3), (RX1, TX1, 5), (RX2, TX2, 6), (RX3, TX3, 1), (RX4, TX4, 15), (RX5, TX5, 4), (RX6, TX6, 5), (RX7, TX7, 12)]
